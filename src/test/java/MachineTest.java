/** Promises 14 to 19: start, go, state, output, object and top, and Part IV. */
public final class MachineTest {
    private static final int NULL = 11;
    private static final int KIND = 12;
    private static final int FIELD = 13;
    private static final int METHOD = 14;
    private static final int ZERO = 15;
    private static final int DEEP = 16;
    private static final int ROOM = 17;
    private static final int ARG = 18;

    private MachineTest() {
    }

    public static void main(String[] args) {
        start();
        startWithoutMain();
        go();
        mostSteps();
        state();
        stateOfCalls();
        output();
        object();
        fields();
        top();
        arithmetic();
        sameAndIf();
        variables();
        methods();
        errors();
        errorsInOrder();
        deep();
        deepByVariables();
        room();
        wovenOrders();
        tails();
        turns();
        House.finish();
    }

    /** What main with this body gives. */
    private static void gives(int due, String body) {
        WeaveHouse house = House.woven(House.mainGame(body));
        house.go(10000);
        House.due("state of " + body, house.state(0), 2);
        House.due("what it gives: " + body, house.state(10), due);
    }

    /** Main with this body fails with this state at this order. */
    private static void fails(int due, int at, String body) {
        failsIn(due, at, House.mainGame(body));
    }

    private static void failsIn(int due, int at, String game, String... mods) {
        WeaveHouse house = House.woven(game, mods);
        house.go(100000);
        House.due("state of " + game, house.state(0), due);
        House.due("the order that failed: " + game, house.state(8), at);
    }

    private static void start() {
        WeaveHouse house = new WeaveHouse();
        House.due("start without a game", house.start(), false);
        House.game(house, House.mainGame("push 3; out; new A; ret;"));
        House.due("start unwoven", house.start(), false);
        House.due("not started", house.state(0), 0);
        house.weave();
        House.due("woven, not started", house.state(0), 0);
        House.due("start", house.start(), true);
        House.due("it goes on", house.state(0), 1);
        House.due("an object", house.state(4), 1);
        house.go(10);
        House.due("over", house.state(0), 2);
        House.due("two objects", house.state(4), 2);
        House.due("start again", house.start(), true);
        House.due("it goes on again", house.state(0), 1);
        House.due("output goes", house.state(5), 0);
        House.due("output 0", house.output(0), 0);
        House.due("objects go", house.state(4), 1);
        House.due("object 2 is gone", house.object(2, 0), 0);
        House.due("steps go", house.state(1), 0);
        House.due("what main gave goes", house.state(10), 0);
        house.go(2);
        house.start();
        House.due("start in the midst", house.state(8), 0);
        House.due("fields are 0 again", house.object(1, 1), 0);
    }

    private static void startWithoutMain() {
        for (String game : new String[] {"class A { field f; method mai() { null; ret; } } class B { method main() { null; ret; } }",
            "class A { field f; method main(p) { null; ret; } }"}) {
            WeaveHouse house = new WeaveHouse();
            House.game(house, game);
            house.weave();
            House.due("start without main", house.start(), true);
            House.due("over at once", house.state(0), METHOD);
            House.due("go", house.go(10), 0);
            int[] due = {METHOD, 0, 0, 0, 1, 0, -1, -1, -1, -1, 0, 0};
            for (int what = 0; what < due.length; what++) {
                House.due("state " + what + " without main", house.state(what), due[what]);
            }
        }
        WeaveHouse house = House.woven("class A { }", "mod M { patch A { method main() { push 6; ret; } } }");
        house.go(5);
        House.due("main of a mod", house.state(10), 6);
    }

    private static void go() {
        WeaveHouse house = new WeaveHouse();
        House.due("go without a start", house.go(0), -1);
        House.game(house, House.mainGame("push 1; pop; push 2; ret;"));
        house.weave();
        House.due("go woven without a start", house.go(1), -1);
        house.start();
        House.due("go 0", house.go(0), 0);
        House.due("go -1", house.go(-1), -1);
        House.due("go 100001", house.go(100001), -1);
        House.due("nothing was done", house.state(1), 0);
        House.due("go 1", house.go(1), 1);
        House.due("go 2", house.go(2), 2);
        House.due("go on to the end", house.go(100000), 1);
        House.due("go when over", house.go(5), 0);
        House.due("steps", house.state(1), 4);
        WeaveHouse failing = House.woven(House.mainGame("push 1; null; get f; ret;"));
        House.due("the step that fails is not done", failing.go(10), 2);
        House.due("nor told", failing.state(1), 2);
        House.due("go when failed", failing.go(10), 0);
    }

    private static void mostSteps() {
        WeaveHouse house = House.woven(House.mainGame("push 0; L: push 1; add; jump L;"));
        for (int i = 0; i < 199; i++) {
            House.due("go " + i, house.go(100000), 100000);
        }
        House.due("99999 more", house.go(99999), 99999);
        House.due("the last one", house.go(2), 1);
        House.due("no more", house.go(2), 0);
        House.due("in all", house.state(1), 20000000);
        House.due("it goes on, and does not", house.state(0), 1);
        house.start();
        House.due("anew", house.go(7), 7);
    }

    private static void state() {
        WeaveHouse house = new WeaveHouse();
        for (int what = 0; what <= 11; what++) {
            House.due("state " + what + " not started", house.state(what), 0);
        }
        House.due("state 12 not started", house.state(12), -1);
        House.due("state -1 not started", house.state(-1), -1);
        House.game(house, House.mainGame("new A; store v; push 5; out; push 8; push 9; load v; ret;"));
        House.load(house, "mod M { patch A { head main { push 1; out; } } }");
        house.weave();
        house.start();
        house.go(1);
        states(house, 1, 1, 1, 1, 1, 0, 0, 0, 1, 0, 0, 1);
        house.go(7);
        states(house, 1, 8, 1, 2, 2, 2, 0, 0, 8, -1, 0, 1);
        house.go(100);
        states(house, 2, 10, 0, 0, 2, 2, -1, -1, -1, -1, 2, 0);
        House.due("state 12", house.state(12), -1);
        House.due("state -1", house.state(-1), -1);
    }

    private static void states(WeaveHouse house, int... due) {
        for (int what = 0; what < due.length; what++) {
            House.due("state " + what + " at step " + house.state(1), house.state(what), due[what]);
        }
    }

    private static void stateOfCalls() {
        WeaveHouse house = House.woven("class A { method k() { null; ret; } method main() { push 1; store v; push 7; new B; push 3; push 4; call m 2; "
                + "ret; } } class B { method n() { null; ret; } method m(p, q) { load p; store r; push 1; push 2; null; get f; ret; } }",
                "mod M { patch B { tail m { push 1; store x; } } }");
        house.go(6);
        states(house, 1, 6, 1, 4, 2, 0, 0, 1, 6, -1, 0, 1);
        house.go(1);
        states(house, 1, 7, 2, 1, 2, 0, 1, 1, 0, -1, 0, 1 + 4);
        house.go(4);
        states(house, 1, 11, 2, 3, 2, 0, 1, 1, 4, -1, 0, 5);
        house.go(10);
        states(house, NULL, 12, 2, 4, 2, 0, 1, 1, 5, -1, 0, 5);
        WeaveHouse inMod = House.woven(House.mainGame("push 1; ret;"), "mod M { }", "mod N { patch A { head main { push 1; push 0; div; pop; } } }");
        inMod.go(5);
        states(inMod, ZERO, 2, 1, 2, 1, 0, 0, 0, 2, 1, 0, 0);
    }

    private static void output() {
        WeaveHouse house = House.woven(House.mainGame("push -5; out; null; out; self; out; new A; out; push 9; ret;"));
        house.go(2);
        House.due("output 0", house.output(0), -5);
        House.due("output 1 is not there yet", house.output(1), 0);
        house.go(100);
        House.due("how many", house.state(5), 4);
        House.due("null", house.output(1), 0);
        House.due("self", house.output(2), 1);
        House.due("an object", house.output(3), 2);
        House.due("beyond", house.output(4), 0);
        House.due("output -1", house.output(-1), 0);
        House.due("output far", house.output(Integer.MAX_VALUE), 0);
        WeaveHouse many = House.woven(House.mainGame("push 0; L: push 1; add; dup; out; dup; push 500; less; if L; ret;"));
        many.go(100000);
        House.due("at most 400", many.state(5), 400);
        House.due("the first", many.output(0), 1);
        House.due("the last that is kept", many.output(399), 400);
        House.due("a lost one", many.output(400), 0);
        House.due("it went on", many.state(10), 500);
    }

    private static void object() {
        WeaveHouse house = House.woven("class A { field f; field g; method main() { self; push 7; put g; new C; store c; load c; self; put f; load c; push -2; put x; "
                + "load c; load c; put k; load c; null; put h; load c; ret; } } class B : A { field k; field h; } class C : B { field x; }",
                "mod M { patch A { field z; } patch C { field w; } }");
        house.go(100);
        House.due("the class of object 1", house.object(1, 0), 0);
        House.due("its first field", house.object(1, 1), 0);
        House.due("its second", house.object(1, 2), 7);
        House.due("its third, of a mod", house.object(1, 3), 0);
        House.due("it has no fourth", house.object(1, 4), 0);
        int[] due = {2, 1, 0, 0, 2, 0, -2, 0, 0};
        for (int what = 0; what < due.length; what++) {
            House.due("object 2 " + what, house.object(2, what), due[what]);
        }
        House.due("object 0", house.object(0, 0), 0);
        House.due("object -1", house.object(-1, 1), 0);
        House.due("object 3", house.object(3, 0), 0);
        House.due("object 201", house.object(201, 0), 0);
        House.due("object far", house.object(Integer.MAX_VALUE, Integer.MAX_VALUE), 0);
        House.due("below 0", house.object(2, -1), 0);
        House.due("far below 0", house.object(2, Integer.MIN_VALUE), 0);
        House.due("far", house.object(2, Integer.MAX_VALUE), 0);
    }

    private static void fields() {
        // Of several fields of a name the one nearest to the object's class.
        WeaveHouse house = House.woven("class A { field f; method main() { new C; store c; load c; push 3; put f; load c; push 4; put g; load c; get f; ret; } } "
                + "class B : A { field f; field g; } class C : B { field h; }");
        house.go(100);
        House.due("got", house.state(10), 3);
        int[] due = {2, 0, 3, 4, 0};
        for (int what = 0; what < due.length; what++) {
            House.due("object 2 " + what, house.object(2, what), due[what]);
        }
        WeaveHouse pile = House.woven(House.mainGame("push 1; self; get f; pop; self; push 2; put f; ret;"));
        pile.go(3);
        House.due("get takes one and gives one", pile.state(3), 2);
        pile.go(4);
        House.due("put takes two", pile.state(3), 1);
        gives(0, "self; get f; ret;");
        gives(5, "self; push 5; put f; self; push 6; put g; self; get f; ret;");
    }

    private static void top() {
        WeaveHouse house = House.woven("class A { method main() { push -4; self; null; self; push 6; call m 1; ret; } method m(p) { push 8; load p; ret; } }");
        House.due("top of an empty pile", house.top(0, 0), 0);
        house.go(6);
        House.due("the parameters are taken", house.state(3), 3);
        house.go(1);
        int[] numbers = {8, 0, 1, -4};
        int[] objects = {0, 1, 1, 0};
        for (int k = 0; k < 4; k++) {
            House.due("top " + k, house.top(k, 0), numbers[k]);
            House.due("top " + k + " object", house.top(k, 1), objects[k]);
            House.due("top " + k + " 2", house.top(k, 2), 0);
            House.due("top " + k + " -1", house.top(k, -1), 0);
        }
        House.due("top beyond", house.top(4, 0), 0);
        House.due("top beyond, object", house.top(4, 1), 0);
        House.due("top below", house.top(-1, 0), 0);
        House.due("top far", house.top(Integer.MAX_VALUE, 0), 0);
        house.go(2);
        House.due("what the call gave", house.top(0, 0), 6);
        House.due("the rest is below", house.top(1, 1), 1);
        house.go(1);
        House.due("nothing when over", house.top(0, 0), 0);
    }

    private static void arithmetic() {
        gives(7, "push 3; push 4; add; ret;");
        gives(-1, "push 3; push 4; sub; ret;");
        gives(12, "push 3; push 4; mul; ret;");
        gives(3, "push 7; push 2; div; ret;");
        gives(-3, "push -7; push 2; div; ret;");
        gives(-3, "push 7; push -2; div; ret;");
        gives(1, "push 3; push 4; less; ret;");
        gives(0, "push 4; push 4; less; ret;");
        gives(0, "push 4; push 3; less; ret;");
        gives(1, "push -1; push 0; less; ret;");
        gives(999999999 * 999999999, "push 999999999; push 999999999; mul; ret;");
        gives(Integer.MIN_VALUE, "push 65536; push 32768; mul; ret;");
        gives(Integer.MIN_VALUE, "push 65536; push 32768; mul; push -1; div; ret;");
        gives(Integer.MAX_VALUE, "push 65536; push 32768; mul; push 1; sub; ret;");
        gives(4, "push 3; push 4; swap; pop; ret;");
        gives(6, "push 3; dup; add; ret;");
        gives(3, "push 1; push 2; push 3; ret;");
    }

    private static void sameAndIf() {
        gives(1, "push 3; push 3; same; ret;");
        gives(0, "push 3; push 4; same; ret;");
        gives(1, "null; null; same; ret;");
        gives(0, "null; push 0; same; ret;");
        gives(0, "push 1; self; same; ret;");
        gives(1, "self; self; same; ret;");
        gives(0, "self; new A; same; ret;");
        gives(0, "null; self; same; ret;");
        String branch = " if L; push 10; ret; L: push 20; ret;";
        gives(20, "push 1;" + branch);
        gives(20, "push -1;" + branch);
        gives(10, "push 0;" + branch);
        gives(10, "null;" + branch);
        gives(20, "self;" + branch);
    }

    private static void variables() {
        gives(0, "push 0; if L; L: jump M; N: push 1; store v; M: load v; ret; jump N;");
        // Within a loop they are as they were left; in a new call 0 at first.
        gives(3, "L: load v; push 1; add; store v; load v; push 3; less; if L; load v; ret;");
        WeaveHouse house = House.woven("class A { method main() { self; push 5; call m 1; out; self; push 6; call m 1; ret; } "
                + "method m(p) { load v; load p; add; store v; push 100; store p; load v; ret; } }");
        house.go(100);
        House.due("first", house.output(0), 5);
        House.due("second", house.state(10), 6);
        gives(2, "push 1; store a; push 2; store b; load a; pop; load b; ret;");
    }

    private static void methods() {
        WeaveHouse house = House.woven("class A { field f; method main() { new C; push 1; push 2; call m 2; out; new B; push 1; push 2; call m 2; out; "
                + "self; push 1; push 2; call m 2; out; new C; call k 0; ret; } method m(p, q) { load p; push 10; mul; load q; add; ret; } "
                + "method k() { self; push 0; push 0; call m 2; ret; } } class B : A { } class C : B { method m(p, q) { push 77; ret; } }");
        house.go(1000);
        House.due("that of the class", house.output(0), 77);
        House.due("the nearest above, its parameters in their order", house.output(1), 12);
        House.due("its own", house.output(2), 12);
        House.due("self is the object that was called", house.state(10), 77);
        WeaveHouse rest = House.woven("class A { method main() { push 5; self; call m 0; sub; ret; } method m() { push 1; push 2; push 3; ret; } }");
        rest.go(100);
        House.due("the rest of its part goes", rest.state(10), 2);
        nested();
    }

    /** Calls within calls come back to their own part of the pile, variables and object. */
    private static void nested() {
        WeaveHouse house = House.woven("class A { method main() { push 1; store v; push 50; push 60; new B; push 7; call m 1; add; add; load v; add; ret; } } "
                + "class B { method m(p) { push 2; store w; push 3; push 4; new C; push 8; call k 1; pop; self; out; load p; out; load w; out; push 5; ret; } } "
                + "class C { method k(q) { push 9; store x; push 6; push 6; push 6; ret; } }");
        house.go(16);
        House.due("three calls", house.state(2), 3);
        House.due("their variables", house.state(11), 1 + 2 + 2);
        house.go(4);
        House.due("back in the second", house.state(2), 2);
        House.due("its variables and the first's", house.state(11), 3);
        House.due("both parts of the pile", house.state(3), 2 + 3);
        house.go(100);
        House.due("self", house.output(0), 2);
        House.due("the parameter", house.output(1), 7);
        House.due("the variable", house.output(2), 2);
        House.due("what main gives", house.state(10), 50 + 60 + 5 + 1);
        WeaveHouse selves = House.woven("class A { method main() { new B; call m 0; pop; self; out; load v; out; null; ret; store v; } } "
                + "class B { method m() { new C; call m 0; pop; self; out; null; ret; } } class C { method m() { new D; call m 0; pop; self; out; null; ret; } } "
                + "class D { method m() { self; out; null; ret; } }");
        selves.go(100);
        int[] due = {4, 3, 2, 1, 0};
        for (int i = 0; i < due.length; i++) {
            House.due("self of each call as it comes back " + i, selves.output(i), due[i]);
        }
        WeaveHouse first = House.woven("class A { method main() { load v; if L; push 1; store v; self; call m 0; pop; L: push 3; ret; } method m() { push 4; ret; } }");
        first.go(100);
        House.due("the first name of all is found", first.state(10), 3);
        WeaveHouse again = House.woven("class A { method main() { self; call main 0; ret; } }");
        again.go(3);
        House.due("main within main", again.state(2), 2);
    }

    private static void errors() {
        fails(NULL, 1, "null; get f; ret;");
        fails(NULL, 2, "null; push 1; put f; null; ret;");
        fails(NULL, 1, "null; call main 0; ret;");
        fails(KIND, 1, "push 1; get f; ret;");
        fails(KIND, 2, "push 1; self; put f; null; ret;");
        fails(KIND, 1, "push 0; call main 0; ret;");
        for (String order : new String[] {"add", "sub", "mul", "div", "less"}) {
            fails(KIND, 2, "self; push 1; " + order + "; ret;");
            fails(KIND, 2, "push 1; self; " + order + "; ret;");
            fails(KIND, 2, "null; push 1; " + order + "; ret;");
            fails(KIND, 2, "push 1; null; " + order + "; ret;");
        }
        fails(FIELD, 1, "self; get x; ret;");
        fails(FIELD, 2, "self; null; put x; null; ret;");
        fails(METHOD, 1, "self; call x 0; ret;");
        fails(METHOD, 2, "self; null; call main 1; ret;");
        fails(METHOD, 0, "new X; ret;");
        fails(ZERO, 2, "push 1; push 0; div; ret;");
        // A name of a field is none of a method, nor of a class below.
        failsIn(METHOD, 1, "class A { field f; method main() { self; call f 0; ret; } }");
        failsIn(FIELD, 1, "class A { method main() { self; get main; ret; } }");
        failsIn(FIELD, 1, "class A { method main() { self; get f; ret; } } class B : A { field f; }");
        failsIn(METHOD, 1, "class A { method main() { self; call m 0; ret; } } class B : A { method m() { null; ret; } }");
    }

    private static void errorsInOrder() {
        // The step is not done: all is as it was ahead of it.
        WeaveHouse house = House.woven(House.mainGame("push 5; null; push 6; put f; null; ret;"));
        house.go(10);
        House.due("the pile stays", house.state(3), 3);
        House.due("on top", house.top(0, 0), 6);
        House.due("null below", house.top(1, 1), 1);
        House.due("calls", house.state(2), 1);
        House.due("state", house.state(0), NULL);
        fails(KIND, 2, "null; push 0; div; ret;");
        fails(NULL, 2, "null; null; put x; null; ret;");
        fails(KIND, 1, "push 3; call x 0; ret;");
        fails(NULL, 1, "null; call x 0; ret;");
    }

    private static void deep() {
        WeaveHouse house = House.woven(House.mainGame("self; call main 0; ret;"));
        House.due("59 calls of 2 steps and one step more", house.go(100000), 59 * 2 + 1);
        House.due("deep", house.state(0), DEEP);
        House.due("60 calls", house.state(2), 60);
        House.due("at the call", house.state(8), 1);
        House.due("its object is on the pile", house.state(3), 1);
        // METHOD comes ahead of DEEP.
        WeaveHouse wrong = House.woven("class A { method main() { self; push 1; call m 1; ret; } method m(p) { load p; push 59; less; if L; self; call x 0; ret; "
                + "L: self; load p; push 1; add; call m 1; ret; } }");
        wrong.go(100000);
        House.due("sixty calls", wrong.state(2), 60);
        House.due("method ahead of deep", wrong.state(0), METHOD);
        WeaveHouse back = House.woven("class A { field n; method main() { self; push 1; call m 1; ret; } method m(p) { load p; push 59; less; if L; load p; ret; "
                + "L: self; load p; push 1; add; call m 1; ret; } }");
        back.go(100000);
        House.due("sixty calls come back", back.state(0), 2);
        House.due("with what the last one gave", back.state(10), 59);
    }

    private static void deepByVariables() {
        String stores = "null; store a; null; store b; null; store c; null; store d; null; store e; null; store f; ";
        String game = "class A { method main() { null; store x; self; null; call m 1; ret; } method m(p) { " + stores
                + "null; store g; self; null; call m 1; ret; } }";
        // main has 1, each m 8 and 12 of a head: 1 + 29 * 20 = 581, and one more would be 601.
        String head = "mod M { patch A { head m { " + stores + "} head m { " + stores + "} } }";
        WeaveHouse house = House.woven(game, head);
        house.go(100000);
        House.due("deep", house.state(0), DEEP);
        House.due("calls", house.state(2), 30);
        House.due("variables", house.state(11), 581);
        WeaveHouse just = House.woven(game.replace("null; store x; ", ""), head);
        just.go(100000);
        House.due("deep behind 600", just.state(0), DEEP);
        House.due("calls up to 600", just.state(2), 31);
        House.due("600 variables", just.state(11), 600);
    }

    private static void room() {
        WeaveHouse house = House.woven(House.mainGame("L: new A; pop; jump L;"));
        House.due("199 objects more", house.go(100000), 199 * 3);
        House.due("room", house.state(0), ROOM);
        House.due("200 objects", house.state(4), 200);
        House.due("at new", house.state(8), 0);
        House.due("the last one", house.object(200, 0), 0);
        WeaveHouse missing = House.woven(House.mainGame("L: new A; pop; load n; push 1; add; store n; load n; push 199; less; if L; new X; ret;"));
        missing.go(100000);
        House.due("a class that is not there, and no room", missing.state(0), METHOD);
        House.due("with 200 objects", missing.state(4), 200);
        // Many fields in many objects.
        StringBuilder wide = new StringBuilder("class A { method main() { L: new P11; push 4; put f11x7; jump L; } }");
        for (int c = 0; c < 12; c++) {
            wide.append("class P").append(c).append(c == 0 ? "" : " : P" + (c - 1)).append("{");
            for (int f = 0; f < 12; f++) {
                wide.append("field f").append(c).append("x").append(f).append(";");
            }
            wide.append("}");
        }
        WeaveHouse big = House.woven(wide.toString());
        big.go(100000);
        House.due("room for wide objects", big.state(0), ROOM);
        House.due("all 199 of them", big.state(4), 200);
        House.due("a field of the last one", big.object(200, 1 + 11 * 12 + 7), 4);
        House.due("the one ahead of it", big.object(200, 11 * 12 + 7), 0);
        House.due("a field of the second", big.object(2, 1 + 11 * 12 + 7), 4);
        House.due("no further field", big.object(2, 1 + 144), 0);
    }

    private static void wovenOrders() {
        String game = "class A { method main() { self; push 3; push 4; call m 2; ret; } method m(p, q) { load p; push 10; mul; load q; add; ret; } }";
        WeaveHouse house = House.woven(game, "mod M { patch A { head m { arg 1; out; push 9; give 0; } } }");
        house.go(100);
        House.due("arg", house.output(0), 4);
        House.due("give", house.state(10), 94);
        WeaveHouse cancelled = House.woven(game, "mod M { patch A { head m { arg 0; push 3; same; if L; jump E; L: push 1; push 55; cancel; E: null; pop; } "
                + "tail m { push 1; out; } } }");
        cancelled.go(100);
        House.due("cancel", cancelled.state(10), 55);
        House.due("no tails behind cancel", cancelled.state(5), 0);
        WeaveHouse over = House.woven(game, "mod M { patch A { head main { self; cancel; } } }");
        House.due("cancel of main", over.go(100), 2);
        House.due("over by cancel", over.state(0), 2);
        House.due("what cancel gave", over.state(10), 1);
        House.due("no method under way", over.state(6), -1);
        failsIn(ARG, 0, game, "mod M { patch A { head m { arg 2; pop; } } }");
        failsIn(ARG, 1, game, "mod M { patch A { head m { push 1; give 7; } } }");
        failsIn(ARG, 0, game, "mod M { patch A { over main { arg 0; ret; } } }");
        WeaveHouse given = House.woven(game, "mod M { patch A { head main { push 1; give 0; } } }");
        given.go(100);
        House.due("give is not done", given.state(3), 1);
        WeaveHouse order = House.woven(game, "mod M { patch A { head main { push 1; out; } ahead main call m { push 2; out; } behind main call m { push 3; out; } "
                + "tail main { push 4; out; } head m { push 5; out; } } }", "mod N { patch A { behind main call m { push 6; out; } head main { push 7; out; } } }");
        order.go(100);
        int[] due = {1, 7, 2, 5, 6, 3, 4};
        for (int i = 0; i < due.length; i++) {
            House.due("output " + i, order.output(i), due[i]);
        }
    }

    private static void tails() {
        String game = "class A { method main() { push 100; push 200; self; call m 0; ret; } method m() { push 1; push 2; push 0; if L; push 3; ret; L: push 4; ret; } }";
        WeaveHouse house = House.woven(game, "mod M { patch A { tail m { push 7; value; out; value; push 10; add; set; pop; } } }",
                "mod N { patch A { tail m { value; out; value; push 2; mul; set; } tail main { value; out; } } }");
        house.go(100);
        House.due("value", house.output(0), 3);
        House.due("the next tail's value", house.output(1), 13);
        House.due("of main", house.output(2), 26);
        House.due("given", house.state(10), 26);
        WeaveHouse least = House.woven(House.mainGame("push 2; ret;"), "mod M { patch A { tail main { value; out; push 7; push 8; set; pop; } } }");
        least.go(100);
        House.due("the lowest value of the pile", least.output(0), 2);
        House.due("set there", least.state(10), 8);
        WeaveHouse objects = House.woven(game, "mod M { patch A { tail m { self; set; } } }");
        objects.go(100);
        House.due("an object is given", objects.state(10), 1);
        // Variables of a tail are 0 at first, and its own at each place.
        WeaveHouse own = House.woven("class A { method main() { L: load n; push 1; add; store n; self; call m 0; pop; load n; push 2; less; if L; null; ret; } "
                + "method m() { null; ret; } }", "mod M { patch A { ahead main call m { load x; push 1; add; store x; load x; out; } } }");
        own.go(100);
        House.due("first time", own.output(0), 1);
        House.due("within a loop as it was left", own.output(1), 2);
    }

    private static void turns() {
        String game = "class A { field f; method main() { new B; push 3; call m 1; ret; } method m(p) { load p; ret; } } class B { method m(p) { push 5; ret; } }";
        WeaveHouse house = House.woven(game, "mod M { patch A { method t(o, p) { load o; out; self; out; load o; load p; call m 1; load p; add; ret; } "
                + "turn main call m to t; } }");
        house.go(100);
        House.due("the object is its first parameter", house.output(0), 2);
        House.due("it is called for this method's object", house.output(1), 1);
        House.due("what it gives", house.state(10), 8);
        WeaveHouse rest = House.woven("class A { method main() { push 9; self; push 3; call m 1; sub; ret; } method t(o, p) { load p; ret; } }",
                "mod M { patch A { turn main call m to t; } }");
        rest.go(100);
        House.due("a TURN takes no more", rest.state(10), 6);
        failsIn(METHOD, 2, game, "mod M { patch A { turn main call m to m; } }");
        // What is taken is a parameter, so it may be null, or an int.
        for (String first : new String[] {"null", "push 4"}) {
            WeaveHouse any = House.woven("class A { method main() { " + first + "; call m 0; ret; } method t(o) { load o; ret; } }",
                    "mod M { patch A { turn main call m to t; } }");
            any.go(100);
            House.due("a turned call of " + first, any.state(0), 2);
            House.due("what it gives of " + first, any.state(10), first.equals("null") ? 0 : 4);
        }
        // t is that of the object's class, be it below.
        WeaveHouse below = House.woven("class A { method main() { new B; call k 0; ret; } method k() { null; call m 0; ret; } method t(o) { push 1; ret; } } "
                + "class B : A { method t(o) { push 2; ret; } }", "mod M { patch A { turn k call m to t; } }");
        below.go(100);
        House.due("t of the class of the object", below.state(10), 2);
        WeaveHouse deep = House.woven("class A { method main() { null; call m 0; ret; } method t(o) { null; call m 0; ret; } }",
                "mod M { patch A { turn main call m to t; turn t call m to t; } }");
        deep.go(100000);
        House.due("a TURN goes deep", deep.state(0), DEEP);
        House.due("with 60 calls", deep.state(2), 60);
    }
}
