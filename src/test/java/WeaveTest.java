/** Promises 7 to 9: turn, weave and told. */
public final class WeaveTest {
    private static final String GAME = "class A { field f; method main() { push 1; out; self; push 1; call m 1; pop; self; push 2; call m 1; "
            + "push 1; add; ret; } method m(p) { load p; ret; } method n() { push 7; ret; } } class B : A { field g; method k() { null; ret; } }";

    private WeaveTest() {
    }

    public static void main(String[] args) {
        turn();
        weave();
        row();
        rings();
        needs();
        breaks();
        sameName();
        there();
        lacks();
        lacksSites();
        clash();
        clashOfSites();
        muchMembers();
        muchWoven();
        muchCode();
        leastWhy();
        leftOutAsAWhole();
        steps();
        House.finish();
    }

    private static WeaveHouse mods(String... texts) {
        return Mods.of(GAME, texts);
    }

    /** Why a mod with such a patch of A is left out behind others with their patches of A. */
    private static void why(int due, String patch, String... others) {
        WeaveHouse house = new WeaveHouse();
        House.game(house, GAME);
        for (int i = 0; i < others.length; i++) {
            House.load(house, "mod M" + i + " { patch A { " + others[i] + " } }");
        }
        House.due("load " + patch, House.load(house, "mod Z { patch A { " + patch + " } }"), others.length);
        House.due("weave " + patch, house.weave(), others.length + (due == 0 ? 1 : 0));
        House.due("why " + patch, house.told(others.length, 0), due);
    }

    private static void turn() {
        WeaveHouse house = mods("mod M { }", "mod N { }");
        House.due("turn 2", house.turn(2, true), false);
        House.due("turn -1", house.turn(-1, true), false);
        House.due("turn 0 off", house.turn(0, false), true);
        House.due("told as woven", house.told(0, 0), 0);
        House.due("adopted as woven", house.count(1), 2);
        House.due("weave", house.weave(), 1);
        Mods.whys(house, -1, 0);
        Mods.places(house, -1, 0);
        House.due("turn 0 off again", house.turn(0, false), true);
        House.due("weave again", house.weave(), 1);
        House.due("turn 0 on", house.turn(0, true), true);
        House.due("still as woven", house.told(0, 0), -1);
        House.due("weave with both", house.weave(), 2);
        Mods.places(house, 0, 1);
    }

    private static void weave() {
        WeaveHouse house = new WeaveHouse();
        House.due("no game", house.weave(), -1);
        House.game(house, GAME);
        House.due("no mods", house.weave(), 0);
        house.start();
        house.go(2);
        House.due("weave again", house.weave(), 0);
        House.due("the machine has not started", house.state(0), 0);
        House.due("no output then", house.output(0), 0);
        House.due("no object then", house.object(1, 0), 0);
        House.due("go then", house.go(1), -1);
        House.load(house, "mod M { class C { } }");
        House.due("weave with a mod", house.weave(), 1);
        House.due("three classes", house.count(0), 3);
        house.turn(0, false);
        House.due("weave without it", house.weave(), 0);
        House.due("what was woven before goes", house.count(0), 2);
    }

    private static void row() {
        Mods.places(mods("mod M after P { }", "mod N { }", "mod O after M { }", "mod P { }"), 2, 0, 3, 1);
        Mods.places(mods("mod M needs N { }", "mod N { }"), 1, 0);
        Mods.places(mods("mod M after X { }", "mod N breaks M { }"), 0, 1);
        // All those of a name come ahead of it.
        Mods.places(mods("mod M after N { }", "mod N { }", "mod N { }", "mod O { }"), 2, 0, 1, 3);
        WeaveHouse house = mods("mod M after N { }", "mod N { }", "mod O { }");
        Mods.places(house, 1, 0, 2);
        house.turn(1, false);
        House.due("those that are off are not waited for", house.weave(), 2);
        Mods.places(house, 0, -1, 1);
        Mods.places(mods("mod M { }"), 0, -1);
        House.due("told of a third thing", house.told(0, 3), -1);
        House.due("told below 0", house.told(0, -1), -1);
        House.due("told of no mod", house.told(3, 0), -1);
        House.due("told of mod -1", house.told(-1, 0), -1);
    }

    private static void rings() {
        WeaveHouse house = mods("mod M after N { }", "mod N needs M { }", "mod O { }", "mod P after M { }");
        Mods.whys(house, 1, 1, 0, 1);
        Mods.places(house, -1, -1, 0, -1);
        House.due("one is adopted", house.count(1), 1);
        Mods.whys(mods("mod M after M { }", "mod N { }"), 1, 0);
        Mods.whys(mods("mod M needs M { }"), 1);
        Mods.whys(mods("mod M breaks M { }"), 0);
        house.turn(1, false);
        house.weave();
        Mods.whys(house, 0, -1, 0, 0);
    }

    private static void needs() {
        Mods.whys(mods("mod M needs N { }", "mod N { }"), 0, 0);
        Mods.whys(mods("mod M needs N { }"), 2);
        Mods.whys(mods("mod M after N { }"), 0);
        WeaveHouse house = mods("mod M needs N needs O { }", "mod N needs X { }", "mod O { }");
        Mods.whys(house, 2, 2, 0);
        Mods.places(house, 2, 0, 1);
        Mods.whys(mods("mod N needs X { }", "mod N { }", "mod M needs N { }"), 2, 0, 0);
        Mods.whys(mods("mod M needs N breaks O { }", "mod O { }"), 2, 0);
    }

    private static void breaks() {
        Mods.whys(mods("mod M { }", "mod N breaks M { }"), 0, 3);
        Mods.whys(mods("mod M breaks N { }", "mod N { }"), 0, 3);
        Mods.whys(mods("mod M breaks X { }", "mod N breaks Y { }"), 0, 0);
        // One that is left out breaks none.
        Mods.whys(mods("mod M breaks N needs X { }", "mod N { }"), 2, 0);
        Mods.whys(mods("mod M breaks M { }", "mod M { }"), 0, 3);
    }

    private static void sameName() {
        WeaveHouse house = mods("mod M { }", "mod M { }", "mod M { class A { } }");
        Mods.whys(house, 0, 4, 4);
        Mods.places(house, 0, 1, 2);
        house.turn(0, false);
        House.due("without the first", house.weave(), 1);
        Mods.whys(house, -1, 0, 4);
    }

    private static void there() {
        Mods.whys(mods("mod M { class B { } }"), 5);
        Mods.whys(mods("mod M { class C { } }", "mod N { class C { } }"), 0, 5);
        why(5, "field f;");
        why(0, "field g;");
        why(5, "field g;", "field g;");
        why(5, "method m() { null; ret; }");
        why(5, "method k() { null; ret; }", "method k() { null; ret; }");
        // Of the class itself: what is above does not count.
        Mods.whys(mods("mod M { patch B { field f; method m() { null; ret; } } }"), 0);
        Mods.whys(mods("mod M { patch A { field h; } patch A { field h; } }"), 5);
        Mods.whys(mods("mod M { class C { field h; } patch C { field h; } }"), 5);
    }

    private static void lacks() {
        Mods.whys(mods("mod M { class C : D { } }"), 6);
        Mods.whys(mods("mod M { class C : D { } class D { } }"), 6);
        Mods.whys(mods("mod M { class D { } class C : D { } }"), 0);
        Mods.whys(mods("mod M { class C : C { } }"), 6);
        Mods.whys(mods("mod M after N { class C : D { } }", "mod N { class D { } }"), 0, 0);
        Mods.whys(mods("mod M { class C : D { } }", "mod N { class D { } }"), 6, 0);
        Mods.whys(mods("mod M { patch C { } }"), 6);
        Mods.whys(mods("mod M { patch C { } class C { } }"), 6);
        Mods.whys(mods("mod M { class C { } patch C { field f; } }"), 0);
        for (String thing : new String[] {"over k { null; ret; }", "head k { }", "tail k { }", "ahead k call m { }",
            "behind k call m { }", "turn k call m to n;", "const k 1 to 2;"}) {
            why(6, thing);
        }
        // A method must be the class's own.
        Mods.whys(mods("mod M { patch B { head m { } } }"), 6);
        Mods.whys(mods("mod M { patch B { head k { } } }"), 0);
        why(0, "head k { }", "method k() { null; ret; }");
        why(0, "method k() { null; ret; } head k { }");
        why(6, "head k { } method k() { null; ret; }");
    }

    private static void lacksSites() {
        for (String thing : new String[] {"ahead main call S { }", "behind main call S { }", "turn main call S to n;"}) {
            why(0, thing.replace("S", "m"));
            why(0, thing.replace("S", "m # 1"));
            why(0, thing.replace("S", "m # 2"));
            why(6, thing.replace("S", "m # 3"));
            why(6, thing.replace("S", "n"));
            why(6, thing.replace("S", "n # 1"));
        }
        why(0, "const main 1 to 5;");
        why(0, "const main 1 # 3 to 5;");
        why(6, "const main 1 # 4 to 5;");
        why(6, "const main 3 to 5;");
        // The calls' own numbers are no pushes.
        why(6, "const m 1 to 5;");
        why(6, "turn main call m to k;");
        why(0, "turn main call m to main;");
        Mods.whys(mods("mod M { patch B { method t() { self; call t 0; ret; } turn t call t to m; turn t call t to k; } }"), 7);
        Mods.whys(mods("mod M { patch B { method t() { self; call t 0; ret; } turn t call t to m; } }"), 0);
        // The body is that of the over.
        why(6, "ahead main call m { }", "over main { self; call n 0; ret; }");
        why(0, "ahead main call n { }", "over main { self; call n 0; ret; }");
        // Calls of woven bodies are none of the method's body.
        why(6, "ahead main call n { }", "head main { self; call n 0; pop; }");
        // A turned call is still found by its own word, a changed number by that of the text.
        why(0, "ahead main call m # 1 { }", "turn main call m # 1 to n;");
        why(6, "ahead main call n { }", "turn main call m # 1 to n;");
        why(6, "const main 5 to 6;", "const main 1 to 5;");
    }

    private static void clash() {
        String over = "over main { self; push 1; call m 1; ret; }";
        why(0, over);
        why(7, over, over);
        why(7, over + over);
        why(0, over, "head main { }", "tail main { }");
        why(7, over, "ahead main call m { }");
        why(7, over, "behind main call m # 1 { }");
        why(7, over, "turn main call m # 2 to n;");
        why(7, over, "const main 1 # 1 to 2;");
        why(0, over, "over m { null; ret; }");
        why(0, "head main { } tail main { } ahead main call m { } behind main call m { } turn main call m to n; "
                + "const main 1 to 2;", over);
        Mods.whys(mods("mod M { patch A { over m { null; ret; } } patch B { method m(p) { null; ret; } over m { null; ret; } } }"), 0);
    }

    private static void clashOfSites() {
        why(7, "turn main call m to n;", "turn main call m to n;");
        why(7, "turn main call m to n;", "turn main call m # 2 to n;");
        why(7, "turn main call m # 2 to n;", "turn main call m to n;");
        why(7, "turn main call m # 2 to n;", "turn main call m # 2 to n;");
        why(0, "turn main call m # 1 to n;", "turn main call m # 2 to n;");
        why(7, "const main 1 to 3;", "const main 1 to 2;");
        why(7, "const main 1 to 3;", "const main 1 # 3 to 2;");
        why(7, "const main 1 # 3 to 3;", "const main 1 to 2;");
        why(0, "const main 1 # 1 to 3;", "const main 1 # 3 to 2;");
        why(0, "const main 2 to 3;", "const main 1 to 2;");
        why(7, "const main 1 to 3;", "const main 1 to 1;");
        why(0, "const n 7 to 3; turn main call m to n;", "const main 1 to 2;");
        why(7, "const n 7 to 3; const n 7 to 4;");
        // What was left out clashes with none.
        WeaveHouse house = mods("mod M { patch A { const main 1 to 3; turn main call m to n; head k { } } }",
                "mod N { patch A { const main 1 to 4; turn main call m to n; } }");
        Mods.whys(house, 6, 0);
    }

    private static void muchMembers() {
        String mod = "mod M% { " + "class C%a{} class C%b{} class C%c{} class C%d{} class C%e{} class C%f{} class C%g{} class C%h{} " + "}";
        WeaveHouse house = mods(mod.replace("%", "1"), mod.replace("%", "2"), "mod M3 { " + House.many(1, 6, "class D%{}") + " }",
                "mod M4 { class E { } }", "mod M5 { class A { } }", "mod M6 { class F : G { } }");
        Mods.whys(house, 0, 0, 0, 8, 5, 6);
        House.due("24 classes", house.count(0), 24);
        why(0, House.many(1, 3, "field b%;"), House.many(1, 12, "field a%;"));
        why(8, House.many(1, 4, "field b%;"), House.many(1, 12, "field a%;"));
        why(5, House.many(1, 3, "field b%;") + "field f;", House.many(1, 12, "field a%;"));
        why(0, House.many(1, 1, "method b%(){null;ret;}"), House.many(1, 12, "method a%(){null;ret;}"));
        why(8, House.many(1, 2, "method b%(){null;ret;}"), House.many(1, 12, "method a%(){null;ret;}"));
        why(5, House.many(1, 1, "method b%(){null;ret;}") + "method m(){null;ret;}", House.many(1, 12, "method a%(){null;ret;}"));
    }

    private static void muchWoven() {
        for (String thing : new String[] {"head main { }", "tail main { }", "ahead main call m { }", "behind main call m { }"}) {
            why(0, thing.repeat(6));
            why(8, thing.repeat(7));
            why(8, thing, thing.repeat(3), thing.repeat(3));
            why(0, thing.repeat(6) + "head n { } tail n { }");
        }
        why(0, "head main { }".repeat(6) + "tail main { }".repeat(6), "ahead main call m { }".repeat(6) + "behind main call m { }".repeat(6));
        why(6, "ahead main call n { }", "ahead main call m { }".repeat(6));
    }

    private static void muchCode() {
        // n has 2 orders of its own.
        String sixty = "{ " + "null; pop; ".repeat(30) + "}";
        String four = "{ " + "null; pop; ".repeat(29) + "}";
        why(0, "head n " + four, "head n " + sixty, "head n " + sixty, "head n " + sixty, "head n " + sixty);
        why(8, "head n { null; pop; }", "head n " + sixty, "head n " + sixty, "head n " + sixty, "head n " + sixty, "head n " + four);
        // 6 orders, and 146 ahead of each of the two rets: 298.
        WeaveHouse house = new WeaveHouse();
        House.game(house, "class A { method main() { push 1; if L; null; ret; L: null; ret; } }");
        House.load(house, "mod M { patch A { tail main " + sixty + " tail main " + sixty + " tail main { " + "null; pop; ".repeat(13) + "} } }");
        House.load(house, "mod N { patch A { tail main { jump L; L: null; pop; } } }");
        House.load(house, "mod O { patch A { head main { null; pop; } } }");
        House.load(house, "mod P { patch A { head main { L: jump L; } } }");
        House.due("a method of 300 orders", house.weave(), 2);
        Mods.whys(house, 0, 8, 0, 8);
        House.due("298 and 2", house.method(0, 0, 3), 300);
        // m has one parameter: 59 variables more fill it.
        String eight = "{ " + House.many(1, 8, "null; store v%;") + " }";
        String threes = "{ " + House.many(1, 3, "null; store v%;") + " }";
        String all = "head m " + eight;
        why(0, "tail m " + threes, all, all, all, all, all, "head m " + eight + "tail m " + eight);
        why(8, "tail m { null; store v; }", all, all, all, all, all, "head m " + eight + "tail m " + eight + "tail m " + threes);
        total();
    }

    /** All code together: 6000 orders are adopted, and not one more. */
    private static void total() {
        String sixty = "{" + "null;pop;".repeat(30) + "}";
        String methods = House.many(1, 12, "method m%(){self;call m 0;call m 0;call m 0;call m 0;ret;}");
        WeaveHouse full = new WeaveHouse();
        House.due("24 methods of 6 orders", House.game(full, "class A{" + methods + "}class B{" + methods + "}"), 2);
        // 24 * 6 = 144; an ahead of 60 orders at 4 calls adds 240 to a method: 24 of them add 5760.
        int mods = 0;
        for (String c : new String[] {"A", "B"}) {
            for (int from = 1; from <= 12; from += 6) {
                String text = "mod M" + c + from + "{patch " + c + "{" + House.many(from, from + 5, "ahead m% call m" + sixty) + "}}";
                House.due("load of " + text.length(), House.load(full, text), mods);
                mods++;
            }
        }
        House.due("5904 orders", full.weave(), 4);
        House.due("of the first class", full.klass(0, 4), 2952);
        House.load(full, "mod E { patch A { head m1{" + "null;pop;".repeat(27) + "} head m2{" + "null;pop;".repeat(21) + "} } }");
        House.due("6000 orders", full.weave(), 5);
        House.load(full, "mod F { patch B { head m12 { L: jump L; } } }");
        House.due("6001 orders", full.weave(), 5);
        Mods.whys(full, 0, 0, 0, 0, 0, 8);
        full.turn(4, false);
        House.due("5905 orders", full.weave(), 5);
    }

    private static void leastWhy() {
        // Of one thing the least; of several things that of the first.
        Mods.whys(mods("mod M { class A : X { } }"), 5);
        why(6, "turn main call m to zz;", "turn main call m to n;");
        why(7, "const main 1 to 2; field f;", "const main 1 to 2;");
        why(5, "field f; const main 1 to 2;", "const main 1 to 2;");
        why(6, "head zz { } field f;");
        Mods.whys(mods("mod M { patch A { field f; } patch ZZ { } }"), 5);
        Mods.whys(mods("mod M { patch ZZ { } patch A { field f; } }"), 6);
        Mods.whys(mods("mod M { class C : X { } class A { } }"), 6);
    }

    private static void leftOutAsAWhole() {
        WeaveHouse house = mods("mod M { class C { field x; } patch A { field h; method k() { null; ret; } over n { push 8; ret; } "
                + "head main { } tail main { } ahead main call m { } behind main call m { } turn main call m to n; const main 1 to 9; } "
                + "patch B { field h; } patch ZZ { } }");
        Mods.whys(house, 6);
        House.due("no class of it", house.count(0), 2);
        House.due("no field of it", house.klass(0, 2), 1);
        House.due("no field of it below", house.klass(1, 2), 1);
        House.due("no method of it", house.klass(0, 3), 3);
        House.due("no code of it", house.method(0, 0, 3), 12);
        House.due("no number of it", house.order(0, 0, 0, 2), 1);
        House.due("no turn of it", house.order(0, 0, 4, 0), 18);
        House.due("no body of it", house.method(0, 2, 5), -1);
        House.due("the old body", house.order(0, 2, 0, 2), 7);
        House.load(house, "mod N { class C { } patch A { field h; method k() { null; ret; } over n { push 8; ret; } } }");
        House.due("another mod finds all as it was", house.weave(), 1);
        Mods.whys(house, 6, 0);
        House.due("and its over holds", house.order(0, 2, 0, 2), 8);
    }

    private static void steps() {
        WeaveHouse house = new WeaveHouse();
        House.game(house, GAME);
        House.load(house, "mod M { patch A { head m { push 3; out; } const main 2 to 4; } }");
        House.load(house, "mod N { patch A { tail m { value; set; } } }");
        House.load(house, "mod O { }");
        House.due("ahead of a weave", house.told(0, 0), -1);
        House.due("place ahead of a weave", house.told(0, 1), -1);
        House.due("steps ahead of a weave", house.told(0, 2), 0);
        house.weave();
        House.due("steps ahead of start", house.told(0, 2), 0);
        house.start();
        house.go(1000);
        House.due("two heads and a changed push", house.told(0, 2), 5);
        House.due("two tails", house.told(1, 2), 4);
        House.due("none", house.told(2, 2), 0);
        House.due("all", house.state(1), 12 + 4 + 4 + 4);
        House.due("what came of it", house.state(10), 5);
        house.start();
        House.due("from start() on", house.told(0, 2), 0);
        house.go(6);
        House.due("one order of the head", house.told(0, 2), 1);
    }
}
