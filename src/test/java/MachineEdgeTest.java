/** Promises 14 to 19 and the orders of Part IV, a sentence of the document a method. */
public final class MachineEdgeTest {
    private static final int[] FAR = {Integer.MIN_VALUE, -1000000, 1000000, Integer.MAX_VALUE};

    private MachineEdgeTest() {
    }

    public static void main(String[] args) {
        startWithoutAWovenGame();
        outputAndObjectsGo();
        overAtOnce();
        mainOfTheFirstClass();
        upToN();
        anotherN();
        notStarted();
        whileItGoesOn();
        fewerThanTwentyMillion();
        stateNotStarted();
        stateOver();
        stateWithoutMain();
        stateOfOthers();
        whatMainGave();
        outputOfNone();
        outputAtMost400();
        objectOfNone();
        fieldsHighestFirst();
        topOfNone();
        wrap();
        divTowards0();
        lessAndSame();
        ifNotZero();
        zeroAtFirst();
        restOfItsPartGoes();
        fullestPile();
        House.finish();
    }

    /** Main with this body gives this number. */
    private static void gives(int due, String body) {
        WeaveHouse house = House.woven(House.mainGame(body));
        house.go(100000);
        House.due("state of " + body, house.state(0), 2);
        House.due("given by " + body, house.state(10), due);
    }

    private static void states(String what, WeaveHouse house, int... due) {
        for (int i = 0; i < due.length; i++) {
            House.due(what + ": state " + i, house.state(i), due[i]);
        }
    }

    /** "false without a woven game". */
    private static void startWithoutAWovenGame() {
        WeaveHouse house = new WeaveHouse();
        House.due("a new object", house.start(), false);
        House.game(house, "class");
        House.due("a game with a fault", house.start(), false);
        House.game(house, House.mainGame("null; ret;"));
        House.due("not woven", house.start(), false);
        House.due("it has not started", house.state(0), 0);
        House.due("nor does it go", house.go(1), -1);
        house.weave();
        House.due("woven", house.start(), true);
        House.due("it goes on", house.state(0), 1);
        House.game(house, House.mainGame("null; ret;"));
        House.due("another game that is not woven", house.start(), false);
        House.due("not started", house.state(0), 0);
    }

    /** "(Its OUTPUT and OBJECTS go ..)". */
    private static void outputAndObjectsGo() {
        WeaveHouse house = House.woven(House.mainGame("push 5; out; self; push 6; put f; new A; push 7; ret;"));
        house.go(100);
        states("over", house, 2, 8, 0, 0, 2, 1, -1, -1, -1, -1, 7, 0);
        House.due("start again", house.start(), true);
        states("again", house, 1, 0, 1, 0, 1, 0, 0, 0, 0, -1, 0, 0);
        House.due("no output", house.output(0), 0);
        House.due("no second object", house.object(2, 0), 0);
        House.due("the first one's field", house.object(1, 1), 0);
        // In the midst.
        house.go(6);
        house.start();
        states("in the midst", house, 1, 0, 1, 0, 1, 0, 0, 0, 0, -1, 0, 0);
        House.due("nothing on the pile", house.top(0, 1), 0);
    }

    /** "it may be over at once"; "4 METHOD: .. start() without main". */
    private static void overAtOnce() {
        for (String game : new String[] {"class A { }", "class A { field main; }", "class A { method Main() { null; ret; } }", "class A { method main(p) { null; ret; } }",
            "class A { } class B { method main() { null; ret; } }", "class A { } class B : A { method main() { null; ret; } }"}) {
            WeaveHouse house = new WeaveHouse();
            House.game(house, game);
            house.weave();
            House.due("it starts: " + game, house.start(), true);
            House.due("over: " + game, house.state(0), 14);
            House.due("no steps: " + game, house.go(5), 0);
            House.due("no calls: " + game, house.state(2), 0);
        }
    }

    /** "makes an object of the game's first class and calls its method main (without parameters ..)". */
    private static void mainOfTheFirstClass() {
        WeaveHouse house = House.woven("class A { method k() { null; ret; } method main() { self; ret; } } class B : A { method main() { null; ret; } }");
        states("started", house, 1, 0, 1, 0, 1, 0, 0, 1, 0, -1, 0, 0);
        House.due("its class", house.object(1, 0), 0);
        house.go(5);
        House.due("its object", house.state(10), 1);
        WeaveHouse ofMod = House.woven("class A { }", "mod M { patch A { method main() { push 3; store v; load v; ret; } } }");
        states("main of a mod", ofMod, 1, 0, 1, 0, 1, 0, 0, 0, 0, 0, 0, 1);
        WeaveHouse over = House.woven("class A { method main(p) { null; ret; } }", "mod M { patch A { over main { push 3; ret; } } }");
        House.due("an over does not take the parameters away", over.state(0), 14);
    }

    /** "Up to n STEPS (0 .. 100000) ..: how many." */
    private static void upToN() {
        WeaveHouse house = House.woven(House.mainGame("L: null; pop; jump L;"));
        House.due("none", house.go(0), 0);
        House.due("no step was done", house.state(1), 0);
        House.due("one", house.go(1), 1);
        House.due("one step was done", house.state(1), 1);
        House.due("99999", house.go(99999), 99999);
        House.due("100000", house.go(100000), 100000);
        House.due("all", house.state(1), 200000);
        House.due("where it is", house.state(8), 200000 % 3);
    }

    /** "NONE for another n". */
    private static void anotherN() {
        WeaveHouse house = House.woven(House.mainGame("L: null; pop; jump L;"));
        for (int n : new int[] {-1, 100001, Integer.MIN_VALUE, Integer.MAX_VALUE}) {
            House.due("go " + n, house.go(n), -1);
            states("behind go " + n, house, 1, 0, 1, 0, 1, 0, 0, 0, 0, -1, 0, 0);
        }
        WeaveHouse over = House.woven(House.mainGame("null; ret;"));
        over.go(2);
        House.due("over: go -1", over.go(-1), -1);
        House.due("over: go 100001", over.go(100001), -1);
        House.due("over: go 100000", over.go(100000), 0);
    }

    /** "or when it has not started". */
    private static void notStarted() {
        WeaveHouse house = new WeaveHouse();
        House.due("a new object", house.go(0), -1);
        House.game(house, House.mainGame("null; ret;"));
        House.due("a game", house.go(1), -1);
        house.weave();
        House.due("woven", house.go(1), -1);
        house.start();
        House.due("started", house.go(1), 1);
        house.weave();
        House.due("woven again", house.go(1), -1);
        house.start();
        House.game(house, House.mainGame("null; ret;"));
        House.due("another game", house.go(1), -1);
    }

    /** "while it goes on". */
    private static void whileItGoesOn() {
        WeaveHouse house = House.woven(House.mainGame("push 1; pop; push 2; ret;"));
        House.due("three", house.go(3), 3);
        House.due("it goes on", house.state(0), 1);
        House.due("the last one", house.go(2), 1);
        House.due("over", house.state(0), 2);
        House.due("no more", house.go(1), 0);
        House.due("steps", house.state(1), 4);
        WeaveHouse failing = House.woven(House.mainGame("push 1; null; get f; ret;"));
        House.due("two", failing.go(2), 2);
        House.due("it goes on ahead of the order that fails", failing.state(0), 1);
        House.due("it fails", failing.go(1), 0);
        House.due("failed", failing.state(0), 11);
        House.due("steps that were done", failing.state(1), 2);
        House.due("no more when failed", failing.go(1), 0);
    }

    /** "and fewer than 20000000 were done in all". */
    private static void fewerThanTwentyMillion() {
        WeaveHouse house = House.woven(House.mainGame("push 0; L: push 1; add; jump L;"));
        for (int i = 0; i < 199; i++) {
            House.due("go " + i, house.go(100000), 100000);
        }
        House.due("up to 19999999", house.go(99999), 99999);
        House.due("it is 19999999", house.state(1), 19999999);
        House.due("none", house.go(0), 0);
        House.due("one more", house.go(100000), 1);
        House.due("it is 20000000", house.state(1), 20000000);
        House.due("no more", house.go(1), 0);
        House.due("it goes on all the same", house.state(0), 1);
        // push 0, then 3 orders a round: 6666666 rounds and one push more.
        House.due("the count on the pile", house.top(1, 0), 6666666);
    }

    /** "1 to 11: 0 when it has not started". */
    private static void stateNotStarted() {
        WeaveHouse house = new WeaveHouse();
        int[] none = new int[12];
        states("a new object", house, none);
        House.game(house, House.mainGame("push 1; out; null; ret;"));
        states("a game", house, none);
        house.weave();
        states("woven", house, none);
        house.start();
        house.go(3);
        house.weave();
        states("woven again", house, none);
        house.start();
        house.go(3);
        House.game(house, House.mainGame("push 1; out; null; ret;"));
        states("another game", house, none);
    }

    /** "2 over by main's ret (or cancel)"; "6 to 9: NONE when it is over by main's ret". */
    private static void stateOver() {
        WeaveHouse ret = House.woven(House.mainGame("push 8; store v; push 9; push 3; ret;"));
        ret.go(4);
        states("ahead of ret", ret, 1, 4, 1, 2, 1, 0, 0, 0, 4, -1, 0, 1);
        ret.go(1);
        states("behind ret", ret, 2, 5, 0, 0, 1, 0, -1, -1, -1, -1, 3, 0);
        House.due("nothing on the pile", ret.top(0, 0), 0);
        WeaveHouse cancel = House.woven(House.mainGame("null; ret;"), "mod M { patch A { head main { push 9; push 4; cancel; } } }");
        cancel.go(2);
        states("ahead of cancel", cancel, 1, 2, 1, 2, 1, 0, 0, 0, 2, 0, 0, 0);
        cancel.go(1);
        states("behind cancel", cancel, 2, 3, 0, 0, 1, 0, -1, -1, -1, -1, 4, 0);
        // A ret of another call is not main's.
        WeaveHouse inner = House.woven("class A { method main() { self; call m 0; ret; } method m() { push 6; ret; } }");
        inner.go(4);
        states("behind m's ret", inner, 1, 4, 1, 1, 1, 0, 0, 0, 2, -1, 0, 0);
        // Nor is that of a main within main.
        WeaveHouse again = House.woven(House.mainGame("self; get f; if L; self; push 1; put f; self; call main 0; pop; L: push 2; ret;"));
        again.go(8);
        House.due("two calls", again.state(2), 2);
        again.go(5);
        House.due("the inner main is over", again.state(2), 1);
        House.due("main is not", again.state(0), 1);
        again.go(100);
        House.due("now it is", again.state(0), 2);
    }

    /** "6 to 9: NONE when it .. had no main". */
    private static void stateWithoutMain() {
        WeaveHouse house = House.woven("class A { method n() { null; ret; } }");
        for (int what = 6; what <= 9; what++) {
            House.due("state " + what, house.state(what), -1);
        }
        House.due("no steps", house.state(1), 0);
        House.due("nothing was given", house.state(10), 0);
        House.due("no variables", house.state(11), 0);
    }

    /** "NONE for others." */
    private static void stateOfOthers() {
        WeaveHouse over = House.woven(House.mainGame("null; ret;"));
        over.go(2);
        WeaveHouse[] houses = {new WeaveHouse(), House.woven(House.mainGame("null; ret;")), over, House.woven("class A { }")};
        for (WeaveHouse house : houses) {
            House.due("state -1", house.state(-1), -1);
            House.due("state 12", house.state(12), -1);
            for (int far : FAR) {
                House.due("state " + far, house.state(far), -1);
            }
        }
    }

    /** "10 what main gave (its number of an OBJECT)". */
    private static void whatMainGave() {
        gives(0, "push 0; ret;");
        gives(-1, "push -1; ret;");
        gives(0, "null; ret;");
        gives(1, "self; ret;");
        gives(2, "new A; ret;");
        WeaveHouse house = House.woven(House.mainGame("push 5; ret;"));
        house.go(1);
        House.due("not yet", house.state(10), 0);
        house.go(1);
        House.due("then", house.state(10), 5);
        house.start();
        House.due("not any more", house.state(10), 0);
    }

    /** "Number i of OUTPUT; 0 when there is none." */
    private static void outputOfNone() {
        WeaveHouse house = House.woven(House.mainGame("push 5; out; push -6; out; null; ret;"));
        House.due("none yet", house.output(0), 0);
        house.go(2);
        House.due("number 0", house.output(0), 5);
        House.due("number 1 is none yet", house.output(1), 0);
        house.go(9);
        House.due("number 1", house.output(1), -6);
        House.due("number 2", house.output(2), 0);
        House.due("number -1", house.output(-1), 0);
        for (int far : FAR) {
            House.due("number " + far, house.output(far), 0);
        }
        house.start();
        House.due("gone by start", house.output(0), 0);
        House.due("a new object", new WeaveHouse().output(0), 0);
    }

    /** "(at most 400, further ones are lost)". */
    private static void outputAtMost400() {
        WeaveHouse house = House.woven(House.mainGame("push 1; L: dup; out; push 1; add; jump L;"));
        house.go(1 + 5 * 398 + 2);
        House.due("399 numbers", house.state(5), 399);
        house.go(5);
        House.due("400 numbers", house.state(5), 400);
        House.due("the 400th", house.output(399), 400);
        House.due("no 401st", house.output(400), 0);
        House.due("on it goes", house.go(5), 5);
        House.due("no more", house.state(5), 400);
        House.due("lost", house.output(400), 0);
        House.due("the value was taken all the same", house.state(3), 1);
        House.due("the last one stays", house.output(399), 400);
    }

    /** "0 when there is none such." */
    private static void objectOfNone() {
        WeaveHouse house = House.woven("class A { method main() { new C; new C; null; ret; } } class B { field f; } class C : B { field g; }");
        House.due("one object", house.object(1, 0), 0);
        House.due("no object 2 yet", house.object(2, 0), 0);
        house.go(1);
        House.due("object 2", house.object(2, 0), 2);
        House.due("no object 3 yet", house.object(3, 0), 0);
        house.go(9);
        House.due("object 3", house.object(3, 0), 2);
        for (int o : new int[] {0, -1, 4, 200, 201, 202}) {
            House.due("object " + o, house.object(o, 0), 0);
            House.due("object " + o + " field", house.object(o, 1), 0);
        }
        for (int far : FAR) {
            House.due("object " + far, house.object(far, 0), 0);
            House.due("field " + far, house.object(3, far), 0);
        }
        house.weave();
        House.due("none when it has not started", house.object(2, 0), 0);
    }

    /** "1 + f its f-th field (those of the class that is highest first, each class's as they came)". */
    private static void fieldsHighestFirst() {
        WeaveHouse house = House.woven("class A { method main() { new D; dup; push 1; put b1; dup; push 2; put b2; dup; push 3; put c1; dup; push 4; put d1; "
                + "dup; push 5; put bm; dup; push 6; put dm; dup; put d2; null; ret; } } class B { field b1; field b2; } class C : B { field c1; } class D : C { field d1; field d2; }",
                "mod M { patch B { field bm; } patch D { field dm; } }");
        house.go(100);
        int[] due = {3, 1, 2, 5, 3, 4, 2, 6, 0, 0};
        for (int what = 0; what < due.length; what++) {
            House.due("object 2 " + what, house.object(2, what), due[what]);
        }
        House.due("below 0", house.object(2, -1), 0);
        // The next object's fields are its own.
        WeaveHouse two = House.woven("class A { field f; method main() { new A; push 3; put f; new A; null; ret; } }");
        two.go(100);
        House.due("field of 1", two.object(1, 1), 0);
        House.due("none behind it", two.object(1, 2), 0);
        House.due("field of 2", two.object(2, 1), 3);
        House.due("field of 3", two.object(3, 1), 0);
        WeaveHouse three = House.woven("class A { field f; method main() { self; push 2; put f; new A; push 3; put f; new A; push 4; put f; null; ret; } }");
        three.go(100);
        for (int o = 1; o <= 3; o++) {
            House.due("field of object " + o, three.object(o, 1), o + 1);
            House.due("no second field of object " + o, three.object(o, 2), 0);
            House.due("no third field of object " + o, three.object(o, 3), 0);
        }
    }

    /** "The value that has k others above it on the pile ..: 0 when there is none such." */
    private static void topOfNone() {
        WeaveHouse house = House.woven(House.mainGame("push 7; self; null; pop; pop; pop; push 1; ret;"));
        House.due("an empty pile", house.top(0, 0), 0);
        House.due("an empty pile's kind", house.top(0, 1), 0);
        house.go(3);
        int[] values = {0, 1, 7};
        int[] objects = {1, 1, 0};
        for (int k = 0; k < 3; k++) {
            House.due("top " + k, house.top(k, 0), values[k]);
            House.due("kind of top " + k, house.top(k, 1), objects[k]);
            House.due("top's 2", house.top(k, 2), 0);
            House.due("top's -1", house.top(k, -1), 0);
        }
        for (int what = 0; what <= 1; what++) {
            House.due("top 3 " + what, house.top(3, what), 0);
            House.due("top -1 " + what, house.top(-1, what), 0);
            for (int far : FAR) {
                House.due("top " + far, house.top(far, what), 0);
                House.due("top 1's " + far, house.top(1, far), 0);
            }
        }
        house.go(1);
        House.due("one less", house.top(0, 0), 1);
        House.due("what was on top is gone", house.top(2, 0), 0);
        house.go(100);
        House.due("over", house.top(0, 0), 0);
    }

    /** "add sub mul div of ints (they wrap ..)". */
    private static void wrap() {
        String most = "push 65536; push 32768; mul; push 1; sub; ";
        String least = "push 65536; push 32768; mul; ";
        gives(Integer.MAX_VALUE, most + "ret;");
        gives(Integer.MIN_VALUE, least + "ret;");
        gives(Integer.MIN_VALUE, most + "push 1; add; ret;");
        gives(Integer.MAX_VALUE, most + "push 0; add; ret;");
        gives(Integer.MAX_VALUE, least + "push 1; sub; ret;");
        gives(Integer.MIN_VALUE, least + "push -1; mul; ret;");
        gives(-Integer.MAX_VALUE, most + "push -1; mul; ret;");
        gives(1, most + most + "mul; ret;");
        gives(0, least + "push 2; mul; ret;");
        gives(Integer.MIN_VALUE, least + "push -1; div; ret;");
        gives(-Integer.MAX_VALUE, most + "push -1; div; ret;");
        gives(-2, most + "dup; add; ret;");
    }

    /** "div towards 0". */
    private static void divTowards0() {
        int[][] rows = {{7, 2}, {-7, 2}, {7, -2}, {-7, -2}, {1, 2}, {-1, 2}, {1, -2}, {-1, -2}, {0, 5}, {0, -5}, {6, 3}, {-6, 3}, {5, 1}, {5, -1}};
        int[] due = {3, -3, -3, 3, 0, 0, 0, 0, 0, 0, 2, -2, 5, -5};
        for (int i = 0; i < rows.length; i++) {
            gives(due[i], "push " + rows[i][0] + "; push " + rows[i][1] + "; div; ret;");
        }
    }

    /** "less 1 or 0; same of any two: 1 or 0." */
    private static void lessAndSame() {
        gives(1, "push 2; push 3; less; ret;");
        gives(0, "push 3; push 3; less; ret;");
        gives(0, "push 4; push 3; less; ret;");
        String most = "push 65536; push 32768; mul; push 1; sub; ";
        String least = "push 65536; push 32768; mul; ";
        gives(1, least + most + "less; ret;");
        gives(0, most + least + "less; ret;");
        gives(1, "push -1; push 0; less; ret;");
        gives(1, "push 3; push 3; same; ret;");
        gives(0, "push 3; push 4; same; ret;");
        gives(0, "push 3; push -3; same; ret;");
        gives(1, "self; self; same; ret;");
        gives(0, "self; new A; same; ret;");
        gives(1, "null; null; same; ret;");
        gives(0, "self; null; same; ret;");
        gives(0, "self; push 1; same; ret;");
        gives(0, "push 1; self; same; ret;");
    }

    /** "if goes to its LABEL if an int is not 0, or an OBJECT is not null." */
    private static void ifNotZero() {
        String branch = "; if L; push 10; ret; L: push 20; ret;";
        gives(10, "push 0" + branch);
        gives(20, "push 1" + branch);
        gives(20, "push -1" + branch);
        gives(20, "push 65536; push 32768; mul" + branch);
        gives(10, "push 65536; dup; mul" + branch);
        gives(10, "null" + branch);
        gives(20, "self" + branch);
    }

    /** "load, store of parameters and variables (0 at first, also within a loop as they were left)"; fields "0 at first". */
    private static void zeroAtFirst() {
        gives(0, "load v; ret; null; store v;");
        gives(1, "load v; push 0; same; ret; null; store v;");
        gives(1, "self; get f; push 0; same; ret;");
        gives(3, "L: load v; push 1; add; store v; load v; push 3; less; if L; load v; ret;");
        // A second call's are 0 again.
        WeaveHouse house = House.woven("class A { method main() { self; push 1; call m 1; pop; self; push 2; call m 1; ret; } "
                + "method m(p) { load v; out; push 9; store v; load p; out; push 8; store p; load p; ret; } }");
        house.go(100);
        int[] due = {0, 1, 0, 2};
        for (int i = 0; i < due.length; i++) {
            House.due("output " + i, house.output(i), due[i]);
        }
        // Those of a woven body as well, and within a loop they are as they were left.
        WeaveHouse woven = House.woven("class A { method main() { L: self; call m 0; pop; load n; push 1; add; store n; load n; push 3; less; if L; null; ret; } "
                + "method m() { null; ret; } }", "mod M { patch A { ahead main call m { load x; push 1; add; store x; load x; out; } head m { load x; out; push 7; store x; } } }");
        woven.go(1000);
        int[] outputs = {1, 0, 2, 0, 3, 0};
        for (int i = 0; i < outputs.length; i++) {
            House.due("woven output " + i, woven.output(i), outputs[i]);
        }
    }

    /** "ret: the value on top is what the call gives; the rest of its part goes." */
    private static void restOfItsPartGoes() {
        WeaveHouse house = House.woven("class A { method main() { push 1; push 2; self; push 5; push 6; call m 2; ret; } method m(p, q) { "
                + "null; ".repeat(11) + "load q; ret; } }");
        house.go(6);
        House.due("main's part", house.state(3), 2);
        house.go(12);
        House.due("both parts", house.state(3), 14);
        house.go(1);
        House.due("what was given on main's part", house.state(3), 3);
        House.due("it", house.top(0, 0), 6);
        House.due("below it", house.top(1, 0), 2);
        // 12 of main's own part and 12 of m's.
        WeaveHouse full = House.woven("class A { method main() { " + "null; ".repeat(11) + "self; call m 0; ret; } method m() { " + "null; ".repeat(12) + "ret; } }");
        full.go(13 + 12);
        House.due("the fullest pile of two", full.state(3), 11 + 12);
        full.go(2);
        House.due("over", full.state(0), 2);
    }

    /** 60 calls, each with 12 of the body and 12 of an ahead on the pile. */
    private static void fullestPile() {
        WeaveHouse house = House.woven("class A { method main() { " + "push 3; ".repeat(11) + "self; call x 0; ret; } }",
                "mod M { patch A { ahead main call x { " + "push 4; ".repeat(11) + "self; call main 0; " + "pop; ".repeat(12) + "} } }");
        House.due("all of it fits", house.told(0, 0), 0);
        house.go(100000);
        House.due("deep", house.state(0), 16);
        House.due("60 calls", house.state(2), 60);
        House.due("the pile", house.state(3), 59 * 23 + 24);
        House.due("on top", house.top(0, 0), 1);
        House.due("below it", house.top(1, 0), 4);
        House.due("the last of all", house.top(59 * 23 + 23, 0), 3);
        House.due("none below", house.top(59 * 23 + 24, 0), 0);
    }
}
