/** The whys 5 to 8 of Part III, a sentence of the document a method: just enough, and one step beyond. */
public final class WhyEdgeTest {
    private static final int THERE = 5;
    private static final int LACKS = 6;
    private static final int CLASH = 7;
    private static final int MUCH = 8;
    // main calls m twice, k once, and pushes 1 three times, 2 once.
    private static final String GAME = "class A { field f; method main() { push 1; out; self; push 1; call m 1; pop; self; push 2; call m 1; pop; self; call k 0; pop; "
            + "push 1; ret; } method m(p) { load p; ret; } method k() { push 7; ret; } method t(a, b) { null; ret; } } class B : A { field g; method n() { self; call n 0; ret; } }";
    private static final String[] SITES = {"ahead main call S { }", "behind main call S { }", "turn main call S to t;"};

    private WhyEdgeTest() {
    }

    public static void main(String[] args) {
        classThatThereIs();
        memberThatTheClassHas();
        classBelowOneThatThereIsNot();
        patchedClass();
        methodOfTheClassItself();
        callsSoOften();
        numbersSoOften();
        sitesOfTheBody();
        turnsMethod();
        secondOver();
        overBehindOthers();
        turnedTwice();
        changedTwice();
        classes();
        methodsOfAClass();
        fieldsOfAClass();
        wovenBodies();
        ordersOfAMethod();
        ordersOfAMethodAtEachPlace();
        variablesOfAMethod();
        ordersOfAll();
        behindAllItsThings();
        leastOfOneThing();
        firstOfAllThings();
        asAWhole();
        nothingOfItStays();
        numbersOfItGo();
        fullTexts();
        fullClasses();
        fullBodies();
        House.finish();
    }

    private static void why(int due, String... patches) {
        Mods.last(due, GAME, patches);
    }

    private static void mods(int[] due, String... texts) {
        Mods.whys(Mods.of(GAME, texts), due);
    }

    private static int[] due(int... whys) {
        return whys;
    }

    /** "5 THERE: a class that there is". */
    private static void classThatThereIs() {
        mods(due(0), "mod M { class C { } }");
        mods(due(THERE), "mod M { class A { } }");
        mods(due(THERE), "mod M { class C { } class B { } }");
        mods(due(0, THERE), "mod M { class C { } }", "mod N { class C { } }");
        mods(due(LACKS, 0), "mod M { class C { } patch X { } }", "mod N { class C { } }");
        mods(due(0), "mod M { class M { } class f { } class main { } }");
    }

    /** "a field or method that the class itself has already". */
    private static void memberThatTheClassHas() {
        why(THERE, "field f;");
        why(0, "field F;");
        why(0, "field main;");
        why(THERE, "method m() { null; ret; }");
        why(0, "method f() { null; ret; }");
        why(THERE, "field x;", "field x;");
        why(0, "field x;", "method x() { null; ret; }");
        why(THERE, "method x() { null; ret; }", "field x;", "method x() { null; ret; }");
        // What a class above or below has is not its own.
        mods(due(0), "mod M { patch B { field f; method m() { null; ret; } } }");
        mods(due(0), "mod M { patch A { field g; method n() { null; ret; } } }");
        // Its own things ahead count.
        mods(due(THERE), "mod M { patch A { field x; } patch A { field x; } }");
        mods(due(THERE), "mod M { patch A { method x() { null; ret; } } patch A { method x() { null; ret; } } }");
    }

    /** "6 LACKS: a class below another one that there is not (of a mod: ahead of it)". */
    private static void classBelowOneThatThereIsNot() {
        mods(due(0), "mod M { class C : A { } class D : C { } }");
        mods(due(LACKS), "mod M { class C : X { } }");
        mods(due(LACKS), "mod M { class C : C { } }");
        mods(due(LACKS), "mod M { class C : D { } class D { } }");
        mods(due(0), "mod M { class D { } class C : D { } }");
        mods(due(0, 0), "mod M { class D { } }", "mod N { class C : D { } }");
        mods(due(LACKS, 0), "mod M { class C : D { } }", "mod N { class D { } }");
        mods(due(LACKS, LACKS), "mod M { class D { } patch X { } }", "mod N { class C : D { } }");
    }

    /** "a PATCH's class that is not there". */
    private static void patchedClass() {
        mods(due(0), "mod M { patch A { } }");
        mods(due(LACKS), "mod M { patch X { } }");
        mods(due(LACKS), "mod M { patch C { } class C { } }");
        mods(due(0), "mod M { class C { } patch C { field f; } }");
        mods(due(0, 0), "mod M { class C { } }", "mod N { patch C { } }");
        mods(due(LACKS, 0), "mod M { patch C { } }", "mod N { class C { } }");
    }

    /** "a method that the class itself has not". */
    private static void methodOfTheClassItself() {
        for (String thing : new String[] {"over W { null; ret; }", "head W { }", "tail W { }", "ahead W call n { }", "behind W call n { }", "turn W call n to n;"}) {
            mods(due(0), "mod M { patch B { " + thing.replace("W", "n") + " } }");
            mods(due(LACKS), "mod M { patch B { " + thing.replace("W", "x") + " } }");
            // main and m are above.
            mods(due(LACKS), "mod M { patch B { " + thing.replace("W", "main") + " } }");
            mods(due(LACKS), "mod M { patch A { " + thing.replace("W", "n") + " } }");
        }
        why(0, "const k 7 to 8;");
        why(LACKS, "const n 7 to 8;");
        mods(due(LACKS), "mod M { patch B { const k 7 to 8; } }");
        why(0, "method x() { null; ret; } head x { } tail x { } over x { null; ret; }");
        why(LACKS, "head x { } method x() { null; ret; }");
        why(0, "method x() { null; ret; }", "head x { }");
    }

    /** "a call .. that the method's body has not so often (# k: the k-th one ..; without # all, one at least)". */
    private static void callsSoOften() {
        for (String thing : SITES) {
            why(0, thing.replace("S", "m"));
            why(0, thing.replace("S", "m # 1"));
            why(0, thing.replace("S", "m # 2"));
            why(LACKS, thing.replace("S", "m # 3"));
            why(LACKS, thing.replace("S", "m # 999999999"));
            why(0, thing.replace("S", "k"));
            why(0, thing.replace("S", "k # 1"));
            why(LACKS, thing.replace("S", "k # 2"));
            why(LACKS, thing.replace("S", "main"));
            why(LACKS, thing.replace("S", "main # 1"));
        }
    }

    /** "or number": those that a push has. */
    private static void numbersSoOften() {
        why(0, "const main 1 to 5;");
        why(0, "const main 1 # 1 to 5;");
        why(0, "const main 1 # 3 to 5;");
        why(LACKS, "const main 1 # 4 to 5;");
        why(0, "const main 2 # 1 to 5;");
        why(LACKS, "const main 2 # 2 to 5;");
        why(LACKS, "const main 0 to 5;");
        why(LACKS, "const main -1 to 5;");
        why(LACKS, "const main 3 # 1 to 5;");
        why(LACKS, "const main 1 # 999999999 to 5;");
        why(LACKS, "const m 1 to 5;");
    }

    /** "that the method's body has": not what is woven into it, and that of the over. */
    private static void sitesOfTheBody() {
        for (String thing : SITES) {
            why(LACKS, "head main { self; call t 0; pop; } tail main { self; call t 0; pop; }", thing.replace("S", "t"));
            why(LACKS, "turn main call m # 1 to t;", thing.replace("S", "t"));
            why(0, "over main { self; call t 0; ret; }", thing.replace("S", "t"));
            why(LACKS, "over main { self; call t 0; ret; }", thing.replace("S", "m"));
            // A call that can't be come to is one.
            why(0, "over main { null; ret; self; call t 0; ret; }", thing.replace("S", "t"));
        }
        // A turned call is still one of its word.
        why(0, "turn main call m # 1 to t;", "ahead main call m # 2 { } behind main call m # 1 { } turn main call m # 2 to t;");
        why(LACKS, "const main 1 to 5;", "const main 5 to 6;");
        why(LACKS, "head main { push 5; pop; }", "const main 5 to 6;");
    }

    /** "a turn's method that the class, or one above, has not". */
    private static void turnsMethod() {
        why(0, "turn main call m to t;");
        why(0, "turn main call m to main;");
        why(LACKS, "turn main call m to x;");
        why(LACKS, "turn main call m to n;");
        why(LACKS, "turn main call m to f;");
        mods(due(0), "mod M { patch B { turn n call n to n; } }");
        mods(due(0), "mod M { patch B { turn n call n to t; } }");
        mods(due(LACKS), "mod M { patch B { turn n call n to x; } }");
        mods(due(0), "mod M { class C : B { method c() { self; call z 0; ret; } } patch C { turn c call z to t; } }");
        why(0, "method x() { null; ret; } turn main call m to x;");
        why(LACKS, "turn main call m to x; method x() { null; ret; }");
    }

    /** "7 CLASH: a second over of a method". */
    private static void secondOver() {
        String over = "over m { null; ret; } ";
        why(0, over);
        why(CLASH, over + over);
        why(CLASH, over, over);
        why(0, over, "over k { null; ret; }");
        mods(due(0, 0), "mod M { patch A { method n() { null; ret; } over n { null; ret; } } }", "mod N { patch B { over n { null; ret; } } }");
        mods(due(LACKS, 0), "mod M { patch A { over m { null; ret; } } patch X { } }", "mod N { patch A { over m { null; ret; } } }");
    }

    /** "or one behind a ahead, behind, turn or const of it". */
    private static void overBehindOthers() {
        String over = "over main { self; push 1; call m 1; ret; } ";
        String[] fixed = {"ahead main call m { } ", "behind main call m # 1 { } ", "turn main call m # 1 to t; ", "const main 1 to 1; "};
        for (String thing : fixed) {
            why(CLASH, thing, over);
            why(CLASH, thing + over);
            why(0, over, thing);
            why(0, over + thing);
        }
        why(0, "head main { } tail main { }", over);
        why(0, "head main { } tail main { } " + over);
        // Of another method they do not matter.
        why(0, String.join("", fixed), "over m { null; ret; } over k { null; ret; }");
    }

    /** "a turn of a call that was turned". */
    private static void turnedTwice() {
        why(CLASH, "turn main call m to t;", "turn main call m to t;");
        why(CLASH, "turn main call m # 1 to t;", "turn main call m to t;");
        why(CLASH, "turn main call m # 2 to t;", "turn main call m to t;");
        why(CLASH, "turn main call m to t;", "turn main call m # 2 to t;");
        why(CLASH, "turn main call m # 2 to t; turn main call m # 2 to t;");
        why(0, "turn main call m # 2 to t;", "turn main call m # 1 to t;");
        why(0, "turn main call m to t;", "turn main call k to t;");
        why(0, "turn main call m to t;", "ahead main call m { } behind main call m { } head main { } tail main { } const main 1 to 2;");
        // What it was turned to is no call of the text.
        why(0, "turn main call m to k;", "turn main call k to t;");
    }

    /** "a const of a number that was changed (numbers are those that the body's text has)". */
    private static void changedTwice() {
        why(CLASH, "const main 1 to 5;", "const main 1 to 5;");
        why(CLASH, "const main 1 to 5;", "const main 1 # 3 to 5;");
        why(CLASH, "const main 1 # 3 to 5;", "const main 1 to 5;");
        why(CLASH, "const main 1 # 2 to 5; const main 1 # 2 to 5;");
        why(CLASH, "const main 1 to 1;", "const main 1 to 2;");
        why(0, "const main 1 # 1 to 5;", "const main 1 # 2 to 5; const main 1 # 3 to 5; const main 2 to 5;");
        // 1 became 2: the text's own 2 is one, and the only one.
        why(0, "const main 1 to 2;", "const main 2 to 3;");
        why(LACKS, "const main 1 to 2;", "const main 2 # 2 to 3;");
    }

    /** "8 MUCH: more than 24 classes". */
    private static void classes() {
        WeaveHouse house = Mods.of(GAME, "mod M{" + House.many(1, 16, "class C%{}") + "}", "mod N{" + House.many(1, 6, "class D%{}") + "}",
                "mod O{class E{}}", "mod P{class D1{}}", "mod Q{class E:X{}}", "mod R{patch D6{field f;}}");
        Mods.whys(house, 0, 0, MUCH, THERE, LACKS, 0);
        House.due("24 classes", house.count(0), 24);
        House.due("the last one", house.klass(23, 0), 1);
        House.due("no further one", house.klass(24, 0), -1);
        house.turn(1, false);
        house.weave();
        Mods.whys(house, 0, -1, 0, 0, THERE, LACKS);
        House.due("20 classes", house.count(0), 20);
        WeaveHouse over = Mods.of(GAME, "mod M{" + House.many(1, 16, "class C%{}") + "}", "mod N{" + House.many(1, 7, "class D%{}") + "}", "mod O{class E{}}");
        Mods.whys(over, 0, MUCH, 0);
    }

    /** "16 methods .. of a class itself". */
    private static void methodsOfAClass() {
        // A has 4 methods.
        String twelve = House.many(1, 12, "method a%(){null;ret;}");
        WeaveHouse house = Mods.last(0, GAME, twelve);
        House.due("16 methods", house.klass(0, 3), 16);
        House.due("the last one", house.method(0, 15, 0), 0);
        why(MUCH, twelve, "method b(){null;ret;}");
        why(THERE, twelve, "method a12(){null;ret;}");
        why(0, twelve, "field b;");
        mods(due(0, 0), "mod M{patch A{" + twelve + "}}", "mod N{patch B{method b(){null;ret;}}}");
        why(MUCH, House.many(1, 11, "method a%(){null;ret;}"), "method b(){null;ret;} method c(){null;ret;}");
    }

    /** "or 16 fields of a class itself". */
    private static void fieldsOfAClass() {
        // A has one field.
        WeaveHouse house = Mods.last(0, GAME, House.many(1, 12, "field a%;"), "field b;field c;field d;");
        House.due("16 fields", house.klass(0, 2), 16);
        why(MUCH, House.many(1, 12, "field a%;"), "field b;field c;field d;", "field e;");
        why(MUCH, House.many(1, 12, "field a%;"), "field b;field c;field d;field e;");
        why(THERE, House.many(1, 12, "field a%;"), "field b;field c;field d;", "field d;");
        why(0, House.many(1, 12, "field a%;"), "field b;field c;field d;", "method e(){null;ret;}");
        // Those of the class above are not its own.
        mods(due(0, 0, 0), "mod M{patch A{" + House.many(1, 12, "field a%;") + "}}", "mod N{patch A{field b;field c;field d;}}",
                "mod O{patch B{" + House.many(1, 12, "field a%;") + "}}");
    }

    /** "6 woven bodies of one kind (heads, tails, aheads, behinds) in a method". */
    private static void wovenBodies() {
        String[] things = {"head main { } ", "tail main { } ", "ahead main call m { } ", "behind main call m { } "};
        for (String thing : things) {
            why(0, thing.repeat(5));
            why(0, thing.repeat(6));
            why(MUCH, thing.repeat(7));
            why(0, thing.repeat(3), thing.repeat(2), thing);
            why(MUCH, thing.repeat(3), thing.repeat(3), thing);
            why(MUCH, thing.repeat(5), thing.repeat(2));
        }
        why(0, things[0].repeat(6) + things[1].repeat(6), things[2].repeat(6) + things[3].repeat(6));
        why(0, things[0].repeat(6), "head m { } tail main { }");
        // Each body counts once, at whichever call it stands.
        why(0, "ahead main call m # 1 { } ahead main call k { } ".repeat(3));
        why(MUCH, "ahead main call m # 1 { } ahead main call k { } ".repeat(3) + "ahead main call m # 2 { }");
        // Of an over's body, those that were there count as well.
        why(MUCH, things[0].repeat(6) + "over main { null; ret; } ", things[0]);
    }

    /** "if a method's WOVEN CODE would have more than 300 ORDERS". */
    private static void ordersOfAMethod() {
        // k has 2.
        String sixty = "head k {" + "null;pop;".repeat(30) + "}";
        WeaveHouse house = Mods.last(0, GAME, sixty.repeat(4), "tail k {" + "null;pop;".repeat(29) + "}");
        House.due("300 orders", house.method(0, 2, 3), 300);
        House.due("the last one", house.order(0, 2, 299, 0), 20);
        House.due("no further one", house.order(0, 2, 300, 0), -1);
        why(MUCH, sixty.repeat(4), "tail k {" + "null;pop;".repeat(29) + "L:jump L;}");
        why(MUCH, sixty.repeat(4), "tail k {" + "null;pop;".repeat(29) + "}", "head k {L:jump L;}");
        why(0, sixty.repeat(4), "tail k {" + "null;pop;".repeat(29) + "}", "head k { } tail k { } head m {L:jump L;}");
        why(0, sixty.repeat(4), "tail k {" + "null;pop;".repeat(29) + "}", "const k 7 to 8;");
    }

    private static void ordersOfAMethodAtEachPlace() {
        // 20 orders, 10 of them rets; a tail of 28 stands 10 times.
        String game = "class A { method m() {" + "null;ret;".repeat(10) + "} }";
        WeaveHouse house = Mods.last(0, game, "tail m {" + "null;pop;".repeat(14) + "}");
        House.due("300 orders", house.method(0, 0, 3), 300);
        Mods.last(MUCH, game, "tail m {" + "null;pop;".repeat(14) + "L:jump L;}");
        Mods.last(MUCH, game, "tail m {" + "null;pop;".repeat(14) + "}", "head m {L:jump L;}");
        Mods.last(0, game, "tail m {" + "null;pop;".repeat(13) + "L:jump L;}", "head m {" + "null;pop;".repeat(5) + "}");
    }

    /** "or its variables of all would be more than 60". */
    private static void variablesOfAMethod() {
        // m has one parameter.
        String eight = "{" + House.many(1, 8, "null;store v%;") + "}";
        String three = "{" + House.many(1, 3, "null;store v%;") + "}";
        String fiftySix = ("head m " + eight).repeat(6) + "tail m " + eight;
        WeaveHouse house = Mods.last(0, GAME, fiftySix, "tail m " + three);
        House.due("60 variables", house.method(0, 1, 4), 60);
        why(MUCH, fiftySix, "tail m " + three, "tail m {null;store v;}");
        why(MUCH, fiftySix, "tail m {" + House.many(1, 4, "null;store v%;") + "}");
        why(0, fiftySix, "tail m " + three, "tail m {null;pop;}");
        // Variables of the body count: an over brings its own.
        why(0, fiftySix, "over m {null;store v;null;store w;null;store x;null;ret;}");
        why(MUCH, fiftySix, "tail m {null;store v;}", "over m {null;store v;null;store w;null;store x;null;ret;}");
        // At each place: 15 rets of 4 variables.
        Mods.last(0, "class A { method m() {" + "null;ret;".repeat(15) + "} }", "tail m {" + House.many(1, 4, "null;store v%;") + "}");
        Mods.last(MUCH, "class A { method m(p) {" + "null;ret;".repeat(15) + "} }", "tail m {" + House.many(1, 4, "null;store v%;") + "}");
    }

    /** "or all WOVEN CODE together would have more than 6000 ORDERS". */
    private static void ordersOfAll() {
        // 24 methods of 16 orders, 15 of them rets: 384; a tail of 15 at each makes 225 more of each: 5784.
        String methods = House.many(1, 12, "method m%(){null;" + "ret;".repeat(15) + "}");
        String tails = House.many(1, 12, "tail m%{" + "null;pop;".repeat(7) + "L:jump L;}");
        String game = "class A{" + methods + "}class B{" + methods + "}";
        String both = "mod M{patch A{" + tails + "}patch B{" + tails + "}}";
        String more = "mod N{patch A{head m1{" + "null;pop;".repeat(29) + "}head m2{" + "null;pop;".repeat(29) + "}}patch B{head m1{" + "null;pop;".repeat(29) + "}head m12{"
                + "null;pop;".repeat(21) + "}}}";
        WeaveHouse house = Mods.of(game, both, more, "mod O{patch B{head m2{L:jump L;}}}", "mod P{patch B{head m2{}}}", "mod Q{class C{method m(){L:jump L;}}}");
        Mods.whys(house, 0, 0, MUCH, 0, MUCH);
        House.due("6000 orders", house.klass(0, 4) + house.klass(1, 4), 6000);
        House.due("the last order of all", house.order(1, 11, 282, 0), 20);
        house.turn(1, false);
        House.due("without 216 of them", house.weave(), 4);
    }

    /** "and behind all its things 8, too": what is too much on the way is not asked. */
    private static void behindAllItsThings() {
        String sixty = "{" + "null;pop;".repeat(30) + "}";
        // 5 heads and k's own 2 orders make 302, with an over of one order 301.
        why(MUCH, ("head k " + sixty).repeat(5));
        why(MUCH, ("head k " + sixty).repeat(5) + "over k {L:jump L;}");
        String game = "class A { method m() {" + "null;pop;".repeat(29) + "null;ret;} }";
        Mods.last(0, game, ("head m " + sixty).repeat(4));
        Mods.last(MUCH, game, ("head m " + sixty).repeat(4) + "head m {null;pop;}");
        Mods.last(0, game, ("head m " + sixty).repeat(4) + "head m {null;pop;} over m {null;ret;}");
        // A later thing's why comes ahead of it.
        Mods.last(LACKS, game, ("head m " + sixty).repeat(5) + "head x {}");
        Mods.last(THERE, game, ("head m " + sixty).repeat(5) + "field f; method m(){null;ret;}");
        Mods.last(CLASH, game, ("head m " + sixty).repeat(4) + "over m " + "{null;ret;} over m {null;ret;}");
    }

    /** "(Of one thing the least WHY.)" */
    private static void leastOfOneThing() {
        mods(due(THERE), "mod M { class A : X { } }");
        why(LACKS, "turn main call m to t;", "turn main call m to x;");
        why(LACKS, "over main { self; call t 0; ret; }", "turn main call m to x;");
        why(LACKS, "ahead main call m { } ".repeat(6), "ahead main call x { }");
        why(LACKS, "behind main call m { } ".repeat(6), "behind main call m # 3 { }");
        why(LACKS, "const main 1 to 5;", "const main 1 # 4 to 5;");
    }

    /** "things in the order of its text": the first that has a why. */
    private static void firstOfAllThings() {
        why(LACKS, "head x { } field f;");
        why(THERE, "field f; head x { }");
        why(CLASH, "const main 1 to 5; const main 1 to 6; field f; head x { }");
        why(MUCH, "head main { } ".repeat(7) + "field f;");
        mods(due(THERE), "mod M { class A { } patch X { } }");
        mods(due(LACKS), "mod M { patch X { } class A { } }");
        mods(due(LACKS), "mod M { class C { } patch A { tail x { } } patch A { field f; } }");
    }

    /** "each as a whole, or LEFT OUT"; "(all its own goes when it is left out)". */
    private static void asAWhole() {
        WeaveHouse house = Mods.of(GAME, "mod M { class C { field x; method y() { null; ret; } } patch A { field z; method y() { null; ret; } over k { push 8; ret; } head m { } "
                + "tail m { null; pop; } ahead main call m { null; pop; } behind main call m { null; pop; } turn main call m to t; const main 1 to 9; } patch B { field z; over n { null; ret; } } "
                + "patch A { field f; } }", "mod N { }");
        Mods.whys(house, THERE, 0);
        Mods.places(house, 0, 1);
        House.due("classes", house.count(0), 2);
        int[][] due = {{-1, -1, 1, 4, 21}, {-1, 0, 1, 1, 3}};
        for (int c = 0; c < 2; c++) {
            for (int what = 0; what < 5; what++) {
                House.due("klass " + c + " " + what, house.klass(c, what), due[c][what]);
            }
        }
        for (int i = 0; i < 15; i++) {
            House.due("owner of order " + i, house.order(0, 0, i, 1), -1);
        }
        House.due("the number", house.order(0, 0, 0, 2), 1);
        House.due("the call", house.order(0, 0, 4, 0), 18);
        House.due("the body of k", house.method(0, 2, 5), -1);
        House.due("the body of n", house.method(1, 0, 5), -1);
        House.due("it runs as the game alone", house.start(), true);
        house.go(1000);
        House.due("what main gives", house.state(10), 1);
        House.due("no steps of it", house.told(0, 2), 0);
    }

    /** What is left out counts for none of the limits, and stands in no one's way. */
    private static void nothingOfItStays() {
        for (String thing : new String[] {"head main { } ", "tail main { } ", "ahead main call m { } ", "behind main call m { } "}) {
            mods(due(LACKS, 0, MUCH), "mod M { patch A { " + thing.repeat(6) + "head x { } } }", "mod N { patch A { " + thing.repeat(6) + "} }", "mod O { patch A { " + thing + "} }");
        }
        String twelve = House.many(1, 12, "method a%(){null;ret;}");
        mods(due(LACKS, 0), "mod M{patch A{" + twelve + "head x{}}}", "mod N{patch A{" + twelve + "}}");
        mods(due(LACKS, 0), "mod M{" + House.many(1, 16, "class C%{}") + "patch X{}}", "mod N{" + House.many(1, 16, "class C%{}") + "}");
        // A method that was left out is not called, though another class has one of that name.
        WeaveHouse house = Mods.of("class A { method main() { self; call x 0; ret; } } class B { method x() { null; ret; } field y; }",
                "mod M { patch A { method x() { null; ret; } field y; } patch X { } }");
        Mods.whys(house, LACKS);
        house.start();
        house.go(9);
        House.due("no such method", house.state(0), 14);
        // Its orders are counted no more: a method of 60 that went with it, then 6000 of all without it.
        String methods = House.many(1, 12, "method m%(){null;" + "ret;".repeat(15) + "}");
        String tails = House.many(1, 12, "tail m%{" + "null;pop;".repeat(7) + "L:jump L;}");
        String eighth = "{" + "null;pop;".repeat(27) + "}";
        WeaveHouse full = Mods.of("class B{" + methods + "}class A{" + methods.replace("method m12(){null;" + "ret;".repeat(15) + "}", "") + "}",
                "mod Z{patch A{method m12(){null;" + "ret;".repeat(59) + "}tail m12{null;pop;null;pop;null;pop;}}}",
                "mod M{patch B{" + tails + "}patch A{" + tails.replace("tail m12{" + "null;pop;".repeat(7) + "L:jump L;}", "") + "}}",
                "mod N{patch B{" + House.many(1, 4, "head m%" + eighth) + "}patch A{" + House.many(1, 4, "head m%" + eighth) + "head m5{" + "null;pop;".repeat(12) + "L:jump L;}}}");
        Mods.whys(full, MUCH, 0, 0);
        // 23 methods of 241, 8 heads of 54 and one of 25.
        House.due("6000 orders", full.klass(0, 4) + full.klass(1, 4), 6000);
    }

    /** Numbers and calls that it changed are as they were, in whichever method. */
    private static void numbersOfItGo() {
        String things = House.many(1, 4, "const m% 5 to 6; turn m% call n to n; over k% {push 7;ret;} ");
        String methods = House.many(1, 4, "method m%(){push 5;self;call n 0;pop;ret;} method k%(){push 5;ret;}") + "method n(){null;ret;}";
        WeaveHouse house = Mods.of("class A{" + methods + "}class B{" + methods + "}",
                "mod M{patch A{" + things + "}patch B{" + things + "}patch X{}}", "mod N{patch A{const m4 5 to 8;}}");
        Mods.whys(house, LACKS, 0);
        for (int c = 0; c < 2; c++) {
            for (int m = 0; m < 8; m++) {
                boolean changed = c == 0 && m == 6;
                House.due("number of " + c + " " + m, house.order(c, m, 0, 2), changed ? 8 : 5);
                House.due("owner of " + c + " " + m, house.order(c, m, 0, 1), changed ? 1 : -1);
                House.due("owner of the body of " + c + " " + m, house.method(c, m, 5), -1);
                House.due("the third order of " + c + " " + m, house.order(c, m, 2, 0), m % 2 == 0 ? 18 : -1);
            }
        }
        // Without that PATCH all of it comes.
        WeaveHouse whole = Mods.of("class A{" + methods + "}class B{" + methods + "}", "mod M{patch A{" + things + "}patch B{" + things + "}}");
        Mods.whys(whole, 0);
        for (int c = 0; c < 2; c++) {
            for (int m = 0; m < 8; m++) {
                House.due("new number of " + c + " " + m, whole.order(c, m, 0, 2), m % 2 == 0 ? 6 : 7);
                House.due("the third order then of " + c + " " + m, whole.order(c, m, 2, 0), m % 2 == 0 ? 27 : -1);
            }
        }
    }

    /** All that a text may have comes: 16 classes and 8 PATCHES, and 8 mods of 8 PATCHES of 12 things. */
    private static void fullTexts() {
        WeaveHouse house = Mods.of("class A{}", "mod M{" + House.many(1, 16, "class C%{field f;}") + House.many(1, 8, "patch C%{field g;}") + "}",
                "mod N{" + House.many(9, 16, "patch C%{field g;}") + "}");
        Mods.whys(house, 0, 0);
        House.due("17 classes", house.count(0), 17);
        for (int c = 1; c <= 16; c++) {
            House.due("fields of class " + c, house.klass(c, 2), 2);
        }
        String[] mods = new String[8];
        for (int i = 0; i < 8; i++) {
            StringBuilder patches = new StringBuilder();
            for (char m = 'a'; m <= 'h'; m++) {
                patches.append("patch C").append(i).append('{').append(("head " + m + "{}").repeat(6)).append(("tail " + m + "{}").repeat(5)).append("tail ").append(m).append("{L:jump L;}}");
            }
            mods[i] = "mod M" + i + "{" + patches + "}";
        }
        StringBuilder methods = new StringBuilder();
        for (char m = 'a'; m <= 'h'; m++) {
            methods.append("method ").append(m).append("(){null;ret;}");
        }
        WeaveHouse all = Mods.of(House.many(0, 7, "class C%{" + methods + "}"), mods);
        Mods.whys(all, 0, 0, 0, 0, 0, 0, 0, 0);
        for (int c = 0; c < 8; c++) {
            House.due("orders of class " + c, all.klass(c, 4), 8 * 3);
        }
        House.due("the last thing's owner", all.order(7, 7, 1, 1), 7);
    }

    /** Full classes side by side: each member is that of its own class. */
    private static void fullClasses() {
        String fields = House.many(1, 12, "field f%;");
        String game = "class A{" + House.many(1, 11, "method m%(){push 1;ret;}") + "method main(){new B;store b;load b;push 7;put f1;load b;call m1 0;ret;}}"
                + "class B{" + fields + "method m1(){push 1;ret;}}";
        WeaveHouse house = Mods.of(game, "mod M{patch B{const m1 1 to 5;}}", "mod N{patch A{" + fields + House.many(12, 15, "method m%(){push 2;ret;}") + "}}",
                "mod O{patch A{" + House.many(13, 16, "field f%;") + "}}");
        Mods.whys(house, 0, 0, 0);
        House.due("16 methods", house.klass(0, 3), 16);
        House.due("16 fields", house.klass(0, 2), 16);
        House.due("the number of the next class stays changed", house.order(1, 0, 0, 2), 5);
        house.start();
        house.go(100);
        House.due("what its method gives", house.state(10), 5);
        House.due("its first field", house.object(2, 1), 7);
        lastClass();
    }

    /** The 24th class with 16 fields and 16 methods. */
    private static void lastClass() {
        WeaveHouse house = Mods.of("class A{method main(){new Z;store z;load z;push 7;put h4;load z;push 3;call k4 1;ret;}}" + House.many(2, 16, "class A%{}"),
                "mod M{" + House.many(1, 7, "class B%{}") + "class Z{" + House.many(1, 12, "field f%;") + House.many(1, 12, "method m%(){null;ret;}") + "}}",
                "mod N{patch Z{" + House.many(1, 4, "field h%;method k%(p){load p;push 1;add;ret;}") + "const k4 1 to 2;head k4{push 9;store v;load v;out;}}}");
        Mods.whys(house, 0, 0);
        House.due("24 classes", house.count(0), 24);
        House.due("its fields", house.klass(23, 2), 16);
        House.due("its methods", house.klass(23, 3), 16);
        House.due("the last one's owner", house.method(23, 15, 0), 1);
        House.due("its orders", house.method(23, 15, 3), 8);
        house.start();
        house.go(100);
        House.due("what it gives", house.state(10), 5);
        House.due("its output", house.output(0), 9);
        House.due("its last field", house.object(2, 16), 7);
        House.due("no further field", house.object(2, 17), 0);
    }

    /** A body of 60 orders: what is changed in it is not changed in the one behind it. */
    private static void fullBodies() {
        String sixty = "{" + "push 1;pop;".repeat(29) + "push 1;ret;}";
        String game = "class A{method m()" + sixty + "method n(){push 1;pop;self;call x 0;ret;}method x(){push 1;ret;}}";
        WeaveHouse house = Mods.of(game, "mod M{patch A{const m 1 to 5;}}", "mod N{patch A{const n 1 to 6;const m 7 to 8;}}", "mod O{patch A{const n 1 to 6;}}");
        Mods.whys(house, 0, LACKS, 0);
        House.due("the last push", house.order(0, 0, 58, 2), 5);
        House.due("the next body's", house.order(0, 1, 0, 2), 6);
        House.due("its owner", house.order(0, 1, 0, 1), 2);
        House.due("the one behind it", house.order(0, 2, 0, 2), 1);
        // Nor does what was changed behind it stand in its way.
        Mods.last(0, game, "const n 1 to 6;", "const m 1 to 5;");
        Mods.last(LACKS, game, "const m 1 # 31 to 5;");
        Mods.last(0, game, "const m 1 # 30 to 5;");
    }
}
