/** Promises 6, 10 to 13: what may be asked, and one step beyond it on either side. */
public final class AskEdgeTest {
    private static final int[] FAR = {Integer.MIN_VALUE, Integer.MIN_VALUE + 1, -1000000, 1000000, Integer.MAX_VALUE - 1, Integer.MAX_VALUE};

    private AskEdgeTest() {
    }

    public static void main(String[] args) {
        faultAheadOfAny();
        faultOfTheLatestThatRead();
        faultOfOthers();
        countWithoutAWovenGame();
        countOfTheWovenGame();
        countOfOthers();
        klassOfOthers();
        klassOwnersAndOrder();
        methodOfOthers();
        methodsAsTheyCame();
        orderOfOthers();
        numbersOfOrders();
        withoutAWovenGame();
        House.finish();
    }

    private static WeaveHouse two() {
        return Mods.of("class A { field f; field g; method m(p, q) { push 1; store v; load p; ret; } method n() { null; ret; } } class B : A { }",
                "mod M { class C : B { field h; method k() { self; ret; } } patch A { head m { null; store w; null; store x; } field i; method o() { null; ret; } } }",
                "mod N { patch A { over n { push 2; store y; load y; ret; } } }");
    }

    /** "NONE .. ahead of any": a load() that does not read is none. */
    private static void faultAheadOfAny() {
        WeaveHouse house = new WeaveHouse();
        House.due("kind", house.fault(0), -1);
        House.due("place", house.fault(1), -1);
        house.feed(0, 0, 0, 0, 0);
        house.end(3);
        House.due("kind behind feed and end", house.fault(0), -1);
        House.due("load that reads nothing", house.load(), -2);
        House.due("kind behind it", house.fault(0), -1);
        House.due("place behind it", house.fault(1), -1);
        house.game();
        House.due("kind behind a game", house.fault(0), 1);
        House.due("place behind a game", house.fault(1), 0);
    }

    /** "Of the latest game() or load() that read: 0 the FAULT's kind (0 without), 1 its place (NONE without)." */
    private static void faultOfTheLatestThatRead() {
        WeaveHouse house = new WeaveHouse();
        String[] texts = {"class A{}class A{}", "class A{}", "mod", "mod M{}", "mod M{patch A{head m{pop;}}}", "mod M{}", "mod M after A after A after A after A after A{}"};
        int[] kinds = {2, 0, 1, 0, 4, 0, 3};
        int[] places = {15, -1, 3, -1, 20, -1, 44};
        for (int i = 0; i < texts.length; i++) {
            House.text(house, texts[i]);
            int answer = i < 2 ? house.game() : house.load();
            House.due("a fault of " + texts[i], answer == -1, kinds[i] != 0);
            House.due("kind of " + texts[i], house.fault(0), kinds[i]);
            House.due("place of " + texts[i], house.fault(1), places[i]);
        }
        house.weave();
        house.start();
        house.go(1);
        house.turn(0, false);
        House.due("other calls leave it", house.fault(0), 3);
        House.due("its place too", house.fault(1), 44);
        for (int i = 2; i < 8; i++) {
            House.load(house, "mod M{}");
        }
        House.load(house, "mod");
        House.due("a ninth mod was not read", house.fault(0), 0);
        House.due("no place of it", house.fault(1), -1);
    }

    /** "NONE for others". */
    private static void faultOfOthers() {
        WeaveHouse house = new WeaveHouse();
        for (int round = 0; round < 3; round++) {
            House.due("fault -1", house.fault(-1), -1);
            House.due("fault 2", house.fault(2), -1);
            for (int far : FAR) {
                House.due("fault " + far, house.fault(far), -1);
            }
            House.game(house, round == 0 ? "class A{}" : "class");
        }
    }

    /** "(0 and 1: 0 without one.)" */
    private static void countWithoutAWovenGame() {
        WeaveHouse house = new WeaveHouse();
        int[] none = {0, 0, 0, 0, 0};
        counts(house, none);
        House.game(house, "class A { } class B { }");
        counts(house, none);
        House.load(house, "mod M { class C { } }");
        counts(house, new int[] {0, 0, 0, 1, 0});
        house.weave();
        counts(house, new int[] {3, 1, 1, 1, 0});
        House.game(house, "class A { }");
        counts(house, none);
    }

    private static void counts(WeaveHouse house, int[] due) {
        for (int what = 0; what < 5; what++) {
            House.due("count " + what, house.count(what), due[what]);
        }
    }

    private static void countOfTheWovenGame() {
        WeaveHouse house = two();
        counts(house, new int[] {3, 2, 1, 2, 0});
        // What is kept and what is on the tape is told at once, the rest as it was woven.
        House.load(house, "mod O { class D { } }");
        house.turn(0, false);
        house.feed(1, 2, 3, 4, 5);
        counts(house, new int[] {3, 2, 1, 3, 20});
        house.weave();
        counts(house, new int[] {3, 2, 1, 3, 20});
        house.turn(1, false);
        house.turn(2, false);
        house.weave();
        counts(house, new int[] {2, 0, 1, 3, 20});
    }

    /** "NONE for others." */
    private static void countOfOthers() {
        for (WeaveHouse house : new WeaveHouse[] {new WeaveHouse(), two()}) {
            House.due("count -1", house.count(-1), -1);
            House.due("count 5", house.count(5), -1);
            for (int far : FAR) {
                House.due("count " + far, house.count(far), -1);
            }
        }
    }

    private static void klassOfOthers() {
        WeaveHouse house = two();
        for (int what = 0; what <= 4; what++) {
            House.due("klass -1 " + what, house.klass(-1, what), -1);
            House.due("klass 3 " + what, house.klass(3, what), -1);
        }
        for (int c = 0; c < 3; c++) {
            House.due("klass " + c + " -1", house.klass(c, -1), -1);
            House.due("klass " + c + " 5", house.klass(c, 5), -1);
        }
        for (int far : FAR) {
            House.due("klass " + far, house.klass(far, 2), -1);
            House.due("klass 0 " + far, house.klass(0, far), -1);
        }
    }

    /** "0 its owner, 1 the class above (NONE), 2 its own fields, 3 its own methods, 4 woven ORDERS of all of these". */
    private static void klassOwnersAndOrder() {
        WeaveHouse house = two();
        int[][] due = {{-1, -1, 3, 3, 4 + 4 + 4 + 2}, {-1, 0, 0, 0, 0}, {0, 1, 1, 1, 2}};
        for (int c = 0; c < due.length; c++) {
            for (int what = 0; what < 5; what++) {
                House.due("klass " + c + " " + what, house.klass(c, what), due[c][what]);
            }
        }
        // Those of mods as they were adopted, not as they are numbered.
        WeaveHouse row = Mods.of("class A { }", "mod M after N { class B { field f; } }", "mod N { class C { } class D : C { } }");
        int[] owners = {-1, 1, 1, 0};
        int[] aboves = {-1, -1, 1, -1};
        for (int c = 0; c < 4; c++) {
            House.due("owner of " + c, row.klass(c, 0), owners[c]);
            House.due("above " + c, row.klass(c, 1), aboves[c]);
        }
    }

    private static void methodOfOthers() {
        WeaveHouse house = two();
        for (int what = 0; what <= 5; what++) {
            House.due("method 0 -1 " + what, house.method(0, -1, what), -1);
            House.due("method 0 3 " + what, house.method(0, 3, what), -1);
            House.due("method 1 0 " + what, house.method(1, 0, what), -1);
            House.due("method 2 1 " + what, house.method(2, 1, what), -1);
            House.due("method 3 0 " + what, house.method(3, 0, what), -1);
            House.due("method -1 0 " + what, house.method(-1, 0, what), -1);
        }
        for (int m = 0; m < 3; m++) {
            House.due("method 0 " + m + " -1", house.method(0, m, -1), -1);
            House.due("method 0 " + m + " 6", house.method(0, m, 6), -1);
        }
        for (int far : FAR) {
            House.due("method of class " + far, house.method(far, 0, 1), -1);
            House.due("method " + far, house.method(0, far, 1), -1);
            House.due("method's " + far, house.method(0, 0, far), -1);
        }
    }

    /** "(from 0 on, as they came to it)". */
    private static void methodsAsTheyCame() {
        WeaveHouse house = two();
        int[][] due = {{-1, 2, 1, 8, 5, -1}, {-1, 0, 1, 4, 1, 1}, {0, 0, 0, 2, 0, 0}};
        for (int m = 0; m < 3; m++) {
            for (int what = 0; what < 6; what++) {
                House.due("method 0 " + m + " " + what, house.method(0, m, what), due[m][what]);
            }
        }
        House.due("of the mod's class", house.method(2, 0, 0), 0);
    }

    private static void orderOfOthers() {
        WeaveHouse house = two();
        for (int what = 0; what <= 2; what++) {
            House.due("order 0 0 -1 " + what, house.order(0, 0, -1, what), -1);
            House.due("order 0 0 8 " + what, house.order(0, 0, 8, what), -1);
            House.due("order 0 1 4 " + what, house.order(0, 1, 4, what), -1);
            House.due("order 2 0 2 " + what, house.order(2, 0, 2, what), -1);
            House.due("order 0 -1 0 " + what, house.order(0, -1, 0, what), -1);
            House.due("order 0 3 0 " + what, house.order(0, 3, 0, what), -1);
            House.due("order 1 0 0 " + what, house.order(1, 0, 0, what), -1);
            House.due("order 3 0 0 " + what, house.order(3, 0, 0, what), -1);
            House.due("order -1 0 0 " + what, house.order(-1, 0, 0, what), -1);
        }
        for (int i : new int[] {0, 7}) {
            House.due("order " + i + " -1", house.order(0, 0, i, -1), -1);
            House.due("order " + i + " 3", house.order(0, 0, i, 3), -1);
            House.due("order " + i + " is one", house.order(0, 0, i, 0) >= 0, true);
        }
        for (int far : FAR) {
            House.due("order of class " + far, house.order(far, 0, 0, 0), -1);
            House.due("order of method " + far, house.order(0, far, 0, 0), -1);
            House.due("order " + far, house.order(0, 0, far, 0), -1);
            House.due("order's " + far, house.order(0, 0, 0, far), -1);
        }
    }

    /** "2 of push the number, .. 0 of others": the least and the most of each. */
    private static void numbersOfOrders() {
        WeaveHouse house = Mods.of("class A { method m(a,b,c,d,e,f,g) { push 999999999; push -999999999; add; store h; load a; load g; load h; pop; pop; pop; "
                + "self; self; self; self; self; self; self; self; call m 7; self; call m 0; L: jump L; } }",
                "mod M { patch A { head m { arg 0; give 7; arg 7; give 0; K: jump K; } const m 999999999 to 0; turn m call m # 2 to m; } }");
        int[] kinds = {22, 23, 22, 23, 15, 0, 0, 9, 3, 2, 2, 2, 6, 6, 6, 19, 19, 19, 19, 19, 19, 19, 19, 18, 19, 27, 15};
        int[] numbers = {0, 7, 7, 0, 4, 0, -999999999, 0, 7, 0, 6, 7, 0, 0, 0, 0, 0, 0, 0, 0, 0, 0, 0, 7, 0, 0, 26};
        House.due("all orders", house.method(0, 0, 3), kinds.length);
        for (int i = 0; i < kinds.length; i++) {
            House.due("kind of order " + i, house.order(0, 0, i, 0), kinds[i]);
            House.due("number of order " + i, house.order(0, 0, i, 2), numbers[i]);
            // The head, the changed push and the TURN are the mod's.
            House.due("owner of order " + i, house.order(0, 0, i, 1), i < 6 || i == 25 ? 0 : -1);
        }
    }

    private static void withoutAWovenGame() {
        WeaveHouse house = two();
        House.game(house, "class A { method m() { null; ret; } }");
        for (int what = -1; what <= 6; what++) {
            House.due("klass unwoven " + what, house.klass(0, what), -1);
            House.due("method unwoven " + what, house.method(0, 0, what), -1);
            House.due("order unwoven " + what, house.order(0, 0, 0, what), -1);
        }
        house.weave();
        House.due("klass woven", house.klass(0, 4), 2);
        House.due("one class alone", house.klass(1, 4), -1);
        House.due("one method alone", house.method(0, 1, 3), -1);
        House.due("two orders alone", house.order(0, 0, 2, 0), -1);
    }
}
