/** What came before leaves no trace: reading behind a fault, weaving again, starting again. */
public final class AgainTest {
    private AgainTest() {
    }

    public static void main(String[] args) {
        readGamesAgain();
        readModsAgain();
        readThingsAgain();
        readMuchAgain();
        cutTape();
        weaveAgain();
        weaveOften();
        leaveOutAgain();
        startAgain();
        startBehindErrors();
        House.finish();
    }

    private static void readGamesAgain() {
        WeaveHouse house = new WeaveHouse();
        String sixteen = House.many(1, 16, "class A%{field f;method m(p){L:load p;store v;load v;ret;}}");
        House.due("a game with a fault behind sixteen classes", House.game(house, sixteen + "}"), -1);
        House.due("its place", house.fault(1), sixteen.length());
        House.due("the same without the fault", House.game(house, sixteen), 16);
        House.due("no kind", house.fault(0), 0);
        House.due("no place", house.fault(1), -1);
        House.due("a body that does not hold", House.game(house, "class A{method m(){push 1;if L;L:if L;null;ret;}}"), -1);
        House.due("the pile", house.fault(0), 4);
        House.due("one that fails ahead of a branch", House.game(house, "class A{method m(){push 1;if L;pop;null;L:null;ret;}}"), -1);
        House.due("orders that can't be come to", House.game(house, "class B{method m(){null;ret;pop;pop;pop;pop;ret;}}"), 1);
        House.due("another game", House.game(house, "class B{method main(){push 1;if L;push 2;ret;L:push 3;ret;}}"), 1);
        House.due("no fault of it", house.fault(0), 0);
        house.weave();
        House.due("its orders", house.klass(0, 4), 6);
        House.due("its fields", house.klass(0, 2), 0);
        House.due("its methods", house.klass(0, 3), 1);
        house.start();
        house.go(100);
        House.due("it runs", house.state(10), 3);
        // The letters of a word all count: neither z and A nor Z and 0 are alike.
        House.due("words that are not alike", House.game(house, "class z{}class A{}class Z{}class a0{}class aZ{}class az{}class aA{}class a9{}class a{}class aa{}"), 10);
    }

    private static void readModsAgain() {
        WeaveHouse house = new WeaveHouse();
        House.game(house, "class A { method m() { push 5; push 5; add; pop; self; call m 0; pop; self; call m 0; ret; } }");
        String wishes = "mod M needs X breaks N after N after V { ";
        String things = House.many(1, 8, "patch A { field f%; head m { null; store a; jump L; L: null; pop; } const m 5 # 2 to 6; turn m call m # 2 to m; }");
        House.due("a fault at the end", House.load(house, wishes + things + "} ;"), -1);
        House.due("a mod in its place", House.load(house, "mod N breaks W after X after Y after Z { patch A { const m 5 to 7; turn m call m to m; } class B { } }"), 0);
        House.due("woven", house.weave(), 1);
        int[] kinds = {0, 0, 9, 6, 19, 27, 6, 19, 27, 20};
        for (int i = 0; i < kinds.length; i++) {
            House.due("order " + i, house.order(0, 0, i, 0), kinds[i]);
        }
        House.due("both numbers", house.order(0, 0, 0, 2) + house.order(0, 0, 1, 2), 14);
        House.due("eight patches are read behind eight", House.load(house, "mod O { " + House.many(1, 8, "patch A { }") + " }"), 1);
    }

    /** The same things at the same places of a text, with and without #, behind a text that had a fault. */
    private static void readThingsAgain() {
        String game = "class A { method main() { push 5; push 5; add; pop; self; call m 0; pop; self; call m 0; ret; } method m() { push 3; ret; } method t(o) { push 4; ret; } }";
        String[] things = {"ahead main call m # 2 { null; pop; } ", "behind main call m # 2 { null; pop; } ", "turn main call m # 2 to t; ", "const main 5 # 2 to 6; "};
        String[] plain = {"tail main { value; out; } ", "head main { } ", "ahead main call m { null; pop; } ", "behind main call m { null; pop; } ", "turn main call m to t; ",
            "const main 5 to 6; "};
        int[] orders = {10 + 2, 10, 10 + 4, 10 + 4, 10, 10};
        for (String thing : things) {
            for (int i = 0; i < plain.length; i++) {
                WeaveHouse house = new WeaveHouse();
                House.game(house, game);
                House.due("a fault", House.load(house, "mod M { patch A { " + thing + "} } ;"), -1);
                House.due("none behind it", House.load(house, "mod M { patch A { " + plain[i] + "} }"), 0);
                House.due("adopted: " + plain[i] + "behind " + thing, house.weave(), 1);
                House.due("orders of " + plain[i] + "behind " + thing, house.method(0, 0, 3), orders[i]);
                House.due("kind of the call of " + plain[i], house.order(0, 0, i == 2 ? 7 : 5, 0), i == 4 ? 27 : 18);
                House.due("number of " + plain[i], house.order(0, 0, 0, 2), i == 5 ? 6 : 5);
            }
        }
    }

    private static void readMuchAgain() {
        WeaveHouse things = new WeaveHouse();
        House.game(things, "class A { }");
        String many = "mod M{" + ("patch A{" + House.many(1, 12, "field a%;") + "head m{}".repeat(12) + "}").repeat(6);
        for (int i = 0; i < 4; i++) {
            House.due("144 things and a fault", House.load(things, many + ";"), -1);
            House.due("it is the last token", things.fault(1), many.length());
        }
        House.due("144 things", House.load(things, many + "}"), 0);
        WeaveHouse orders = new WeaveHouse();
        String methods = "class A{" + House.many(1, 9, "method m%(){" + "self;".repeat(12) + "pop;".repeat(11) + "dup;pop;".repeat(17) + "ret;L:ret;}");
        House.due("531 orders and a fault", House.game(orders, methods + ";"), -1);
        House.due("531 orders", House.game(orders, methods + "}"), 1);
        orders.weave();
        House.due("all of them", orders.klass(0, 4), 9 * 59);
    }

    private static void cutTape() {
        WeaveHouse house = new WeaveHouse();
        House.text(house, "class ABCDEFGHIJK{}");
        house.end(16);
        House.due("a game that was cut", house.game(), -1);
        House.due("nothing behind the cut is read", house.fault(1), 16);
        House.text(house, "class A{method m(){push 1234567890");
        house.end(33);
        House.due("a number that was cut", house.game(), -1);
        House.due("at the text's end", house.fault(1), 33);
        House.text(house, "class A{} class B{}");
        house.end(9);
        House.due("the first class alone", house.game(), 1);
    }

    private static void weaveAgain() {
        WeaveHouse house = new WeaveHouse();
        House.game(house, "class A { field f; method main() { push 1; out; self; call m 0; ret; } method m() { push 4; ret; } method t(o) { push 5; ret; } }");
        House.load(house, "mod M { class B { field x; field y; method q() { null; ret; } } patch A { field g; method k() { null; ret; } const main 1 to 2; turn main call m to t; } }");
        House.load(house, "mod N { class C { field z; } patch A { over m { push 6; ret; } } }");
        for (int round = 0; round < 3; round++) {
            boolean both = round != 1;
            house.turn(0, both);
            House.due("weave " + round, house.weave(), both ? 2 : 1);
            House.due("classes " + round, house.count(0), both ? 3 : 2);
            House.due("fields of A " + round, house.klass(0, 2), both ? 2 : 1);
            House.due("orders of A " + round, house.klass(0, 4), both ? 11 : 9);
            House.due("fields of class 1 " + round, house.klass(1, 2), both ? 2 : 1);
            House.due("methods of class 1 " + round, house.klass(1, 3), both ? 1 : 0);
            House.due("the push " + round, house.order(0, 0, 0, 2), both ? 2 : 1);
            House.due("its owner " + round, house.order(0, 0, 0, 1), both ? 0 : -1);
            House.due("the call " + round, house.order(0, 0, 3, 0), both ? 27 : 18);
            House.due("the body of m " + round, house.method(0, 1, 5), 1);
            house.start();
            house.go(100);
            House.due("what main gives " + round, house.state(10), both ? 5 : 6);
        }
    }

    private static void weaveOften() {
        WeaveHouse house = new WeaveHouse();
        House.game(house, "class A { field f; method main() { self; push 3; put f; null; ret; } }");
        String sixty = "{ " + "null; pop; ".repeat(30) + "}";
        House.load(house, "mod M { patch A { head main " + sixty + " head main " + sixty + " head main " + sixty + " head main " + sixty + " } }");
        for (int i = 0; i < 30; i++) {
            House.due("weave " + i, house.weave(), 1);
        }
        House.due("the last order", house.order(0, 0, 244, 0), 20);
        house.start();
        House.due("all steps", house.go(1000), 245);
        House.due("the field", house.object(1, 1), 3);
    }

    private static void leaveOutAgain() {
        WeaveHouse house = new WeaveHouse();
        House.game(house, "class A { method m() { push 1; push 2; add; ret; } } class B { }");
        House.load(house, "mod M { patch A { const m 1 to 5; } }");
        House.load(house, "mod N { patch A { const m 2 to 6; } patch B { field f; method n() { null; ret; } } patch X { } }");
        House.load(house, "mod O { patch B { head n { } } }");
        House.due("one is adopted", house.weave(), 1);
        House.due("nothing of N in B", house.told(2, 0), 6);
        House.due("no field", house.klass(1, 2), 0);
        House.due("no method", house.klass(1, 3), 0);
        House.due("what M changed stays", house.order(0, 0, 0, 2), 5);
        House.due("what N changed is as it was", house.order(0, 0, 1, 2), 2);
        House.due("and the game's", house.order(0, 0, 1, 1), -1);
    }

    private static void startAgain() {
        WeaveHouse house = House.woven("class A { field f; method main() { self; get f; out; load v; out; self; push 7; put f; push 8; store v; null; ret; } }");
        for (int i = 0; i < 2; i++) {
            house.start();
            house.go(100);
            House.due("the field at first", house.output(0), 0);
            House.due("the variable at first", house.output(1), 0);
            House.due("the field at last", house.object(1, 1), 7);
        }
    }

    private static void startBehindErrors() {
        WeaveHouse house = House.woven("class A { method main() { push 1; store v; load v; self; push 2; call m 1; load v; mul; ret; } "
                + "method m(p) { push 1; new A; push 2; call m 1; ret; } }",
                "mod M { patch A { tail main { value; out; } } }");
        house.go(100000);
        House.due("deep", house.state(0), 16);
        house.turn(0, true);
        House.load(house, "mod N { patch A { over m { push 4; ret; } } }");
        house.weave();
        house.start();
        House.due("one call", house.state(2), 1);
        House.due("nothing on the pile", house.state(3), 0);
        House.due("main's variables", house.state(11), 1);
        house.go(100);
        House.due("over", house.state(0), 2);
        House.due("what main gave", house.state(10), 4);
        House.due("the tail's value", house.output(0), 4);
        WeaveHouse failed = House.woven("class A { method main() { push 1; self; call main 0; ret; } }");
        failed.go(100000);
        House.game(failed, "class A { method n() { null; ret; } }");
        failed.weave();
        failed.start();
        int[] due = {14, 0, 0, 0, 1, 0, -1, -1, -1, -1, 0, 0};
        for (int what = 0; what < due.length; what++) {
            House.due("state " + what + " without main behind an error", failed.state(what), due[what]);
        }
    }
}
