/** Promises 10 to 13: count, klass, method and order. */
public final class WovenCodeTest {
    private static final int TURN = 27;

    private WovenCodeTest() {
    }

    public static void main(String[] args) {
        count();
        klass();
        method();
        everyKind();
        operands();
        headsAndTails();
        aheadsAndBehinds();
        sites();
        labels();
        labelsOfTheFirstOrder();
        changes();
        over();
        variables();
        wrongInputs();
        House.finish();
    }

    private static WeaveHouse woven(String game, String... mods) {
        WeaveHouse house = new WeaveHouse();
        House.due("game " + game, House.game(house, game) > 0, true);
        for (String mod : mods) {
            House.due("load " + mod, House.load(house, mod) >= 0, true);
        }
        House.due("all mods go together", house.weave(), mods.length);
        return house;
    }

    /** Each order of a method is "kind owner number". */
    private static void code(WeaveHouse house, int c, int m, String... orders) {
        String name = "method " + c + " " + m;
        House.due(name + " size", house.method(c, m, 3), orders.length);
        for (int i = 0; i < orders.length; i++) {
            String[] due = orders[i].split(" ");
            House.due(name + " order " + i + " kind", house.order(c, m, i, 0), kindOf(due[0]));
            House.due(name + " order " + i + " owner", house.order(c, m, i, 1), Integer.parseInt(due[1]));
            int number = due.length > 2 ? Integer.parseInt(due[2]) : 0;
            House.due(name + " order " + i + " number", house.order(c, m, i, 2), number);
        }
    }

    private static int kindOf(String word) {
        String[] words = ("push null load store get put pop dup swap add sub mul div less same jump if new call self ret out "
                + "arg give cancel value set TURN").split(" ");
        for (int i = 0; i < words.length; i++) {
            if (words[i].equals(word)) {
                return i;
            }
        }
        return -2;
    }

    private static void count() {
        WeaveHouse house = new WeaveHouse();
        House.game(house, "class A { } class B { }");
        House.load(house, "mod M { class C { } }");
        House.load(house, "mod N needs X { class D { } }");
        House.due("classes unwoven", house.count(0), 0);
        House.due("adopted unwoven", house.count(1), 0);
        House.due("none woven", house.count(2), 0);
        House.due("kept unwoven", house.count(3), 2);
        house.weave();
        house.feed(0, 0, 0, 0, 0);
        House.due("classes", house.count(0), 3);
        House.due("adopted", house.count(1), 1);
        House.due("woven", house.count(2), 1);
        House.due("kept", house.count(3), 2);
        House.due("bytes", house.count(4), 20);
        House.due("count 5", house.count(5), -1);
        House.due("count -1", house.count(-1), -1);
    }

    private static void klass() {
        WeaveHouse house = woven("class A { field f; field g; method m() { null; ret; } } class B : A { } class C : A { method k() { self; ret; } }",
                "mod M after N { class E : D { field x; method y() { self; self; pop; ret; } } patch A { field h; method n() { null; null; ret; } } }",
                "mod N { class D : B { } patch A { head m { null; pop; } } }");
        int[][] due = {{-1, -1, 3, 2, 7}, {-1, 0, 0, 0, 0}, {-1, 0, 0, 1, 2}, {1, 1, 0, 0, 0}, {0, 3, 1, 1, 4}};
        House.due("classes", house.count(0), due.length);
        for (int c = 0; c < due.length; c++) {
            for (int what = 0; what < 5; what++) {
                House.due("klass " + c + " " + what, house.klass(c, what), due[c][what]);
            }
            House.due("klass " + c + " 5", house.klass(c, 5), -1);
            House.due("klass " + c + " -1", house.klass(c, -1), -1);
        }
        House.due("klass -1", house.klass(-1, 0), -1);
        House.due("klass 5", house.klass(5, 0), -1);
        House.due("klass far", house.klass(Integer.MAX_VALUE, 0), -1);
    }

    private static void method() {
        WeaveHouse house = woven("class A { method m(a, b) { null; store v; null; store a; null; ret; } method n() { null; ret; } }",
                "mod M { patch A { method k(x) { null; store y; null; store z; null; ret; } head m { null; store h; } tail m { null; store t; null; store u; } } }",
                "mod N { patch A { over n { null; store o; null; store p; null; store q; null; ret; } } }");
        int[][] due = {{-1, 2, 1, 6 + 2 + 4, 2 + 1 + 1 + 2, -1}, {-1, 0, 3, 8, 3, 1}, {0, 1, 2, 6, 3, 0}};
        for (int m = 0; m < due.length; m++) {
            for (int what = 0; what < 6; what++) {
                House.due("method " + m + " " + what, house.method(0, m, what), due[m][what]);
            }
            House.due("method " + m + " 6", house.method(0, m, 6), -1);
            House.due("method " + m + " -1", house.method(0, m, -1), -1);
        }
    }

    private static void everyKind() {
        WeaveHouse house = woven("class A { field f; method m() { push 5; null; pop; store v; load v; self; get f; add; push 1; sub; push 1; mul; "
                + "push 1; div; push 1; less; push 1; same; if L; jump L; L: new A; dup; swap; put f; self; call m 0; out; null; ret; } }",
                "mod M { patch A { head m { arg 0; give 0; null; cancel; } tail m { value; set; } turn m call m to m; } }");
        code(house, 0, 0, "arg 0 0", "give 0 0", "null 0", "cancel 0", "push -1 5", "null -1", "pop -1", "store -1 0", "load -1 0", "self -1",
                "get -1", "add -1", "push -1 1", "sub -1", "push -1 1", "mul -1", "push -1 1", "div -1", "push -1 1", "less -1", "push -1 1", "same -1",
                "if -1 24", "jump -1 24", "new -1", "dup -1", "swap -1", "put -1", "self -1", "TURN 0 0", "out -1", "null -1", "value 0", "set 0", "ret -1");
    }

    private static void operands() {
        WeaveHouse house = woven("class A { method m(a, b, c) { push -999999999; store z; load c; store b; push 0; store y; load y; load z; load a; "
                + "L: self; self; self; call m 2; pop; jump L; if L; ret; } }", "mod M { patch A { head m { arg 2; give 1; arg 7; give 7; } } }");
        code(house, 0, 0, "arg 0 2", "give 0 1", "arg 0 7", "give 0 7", "push -1 -999999999", "store -1 3", "load -1 2", "store -1 1", "push -1",
                "store -1 4", "load -1 4", "load -1 3", "load -1 0", "self -1", "self -1", "self -1", "call -1 2", "pop -1", "jump -1 13", "if -1 13", "ret -1");
    }

    private static void headsAndTails() {
        WeaveHouse house = woven("class A { method m() { push 1; if L; push 2; ret; L: push 3; ret; } }",
                "mod M after N { patch A { tail m { push 11; pop; } head m { push 10; pop; } head m { push 12; pop; } } }",
                "mod N { patch A { head m { push 20; pop; } tail m { push 21; pop; } } }");
        code(house, 0, 0, "push 1 20", "pop 1", "push 0 10", "pop 0", "push 0 12", "pop 0", "push -1 1", "if -1 14", "push -1 2",
                "push 1 21", "pop 1", "push 0 11", "pop 0", "ret -1", "push -1 3", "push 1 21", "pop 1", "push 0 11", "pop 0", "ret -1");
    }

    private static void aheadsAndBehinds() {
        WeaveHouse house = woven("class A { method m() { self; call m 0; ret; } }",
                "mod M { patch A { ahead m call m { push 1; pop; } behind m call m { push 2; pop; } } }",
                "mod N { patch A { behind m call m { push 3; pop; } ahead m call m { push 4; pop; } behind m call m { push 5; pop; } } }");
        code(house, 0, 0, "self -1", "push 0 1", "pop 0", "push 1 4", "pop 1", "call -1", "push 1 5", "pop 1", "push 1 3", "pop 1", "push 0 2", "pop 0", "ret -1");
    }

    private static void sites() {
        String game = "class A { method m() { self; call m 0; pop; self; call n 0; pop; self; call m 0; ret; } method n() { null; ret; } }";
        code(woven(game, "mod M { patch A { ahead m call m # 2 { push 1; pop; } } }"), 0, 0,
                "self -1", "call -1", "pop -1", "self -1", "call -1", "pop -1", "self -1", "push 0 1", "pop 0", "call -1", "ret -1");
        code(woven(game, "mod M { patch A { behind m call m # 1 { push 1; pop; } } }"), 0, 0,
                "self -1", "call -1", "push 0 1", "pop 0", "pop -1", "self -1", "call -1", "pop -1", "self -1", "call -1", "ret -1");
        code(woven(game, "mod M { patch A { ahead m call m { push 1; pop; } behind m call n { push 2; pop; } } }"), 0, 0,
                "self -1", "push 0 1", "pop 0", "call -1", "pop -1", "self -1", "call -1", "push 0 2", "pop 0", "pop -1", "self -1", "push 0 1", "pop 0",
                "call -1", "ret -1");
    }

    private static void labels() {
        // A label of the body leads ahead of what is woven ahead of its order, but never to heads.
        WeaveHouse house = woven("class A { method m() { K: self; L: call m 0; M: if K; self; push 1; if L; jump M; N: ret; } }",
                "mod M { patch A { head m { X: push 0; if X; } ahead m call m { push 1; if Y; Y: push 2; pop; } behind m call m { Z: jump Z; } "
                + "tail m { push 3; pop; } } }");
        code(house, 0, 0, "push 0", "if 0 0", "self -1", "push 0 1", "if 0 5", "push 0 2", "pop 0", "call -1", "jump 0 8", "if -1 2", "self -1",
                "push -1 1", "if -1 3", "jump -1 9", "push 0 3", "pop 0", "ret -1");
    }

    private static void labelsOfTheFirstOrder() {
        // The first order's own jump leads behind the heads, too.
        WeaveHouse house = woven("class A { method m() { jump L; null; ret; L: null; ret; } method n() { K: jump K; } }",
                "mod M { patch A { head m { null; pop; } head n { null; pop; } } }");
        code(house, 0, 0, "null 0", "pop 0", "jump -1 5", "null -1", "ret -1", "null -1", "ret -1");
        code(house, 0, 1, "null 0", "pop 0", "jump -1 2");
    }

    private static void changes() {
        String game = "class A { method m(p) { push 1; push 2; push 1; add; add; pop; self; load p; call m 1; pop; self; null; call m 1; ret; } "
                + "method t(x, y) { load y; ret; } } class B : A { method t(x, y) { null; ret; } }";
        code(woven(game, "mod M { patch A { const m 1 to 7; turn m call m # 2 to t; } }", "mod N { patch A { const m 2 to -2; turn m call m # 1 to t; } }"), 0, 0,
                "push 0 7", "push 1 -2", "push 0 7", "add -1", "add -1", "pop -1", "self -1", "load -1 0", "TURN 1 1", "pop -1", "self -1", "null -1",
                "TURN 0 1", "ret -1");
        code(woven(game, "mod M { patch A { const m 1 # 2 to 1; head m { push 1; pop; } } }"), 0, 0,
                "push 0 1", "pop 0", "push -1 1", "push -1 2", "push 0 1", "add -1", "add -1", "pop -1", "self -1", "load -1 0", "call -1 1", "pop -1",
                "self -1", "null -1", "call -1 1", "ret -1");
        WeaveHouse house = woven(game, "mod M { patch A { turn m call m to t; ahead m call m # 1 { null; pop; } behind m call m # 1 { jump L; L: null; pop; } } }");
        House.due("an ahead of a TURN", house.order(0, 0, 8, 0), kindOf("null"));
        House.due("the TURN", house.order(0, 0, 10, 0), TURN);
        House.due("a behind of a TURN", house.order(0, 0, 11, 2), 12);
    }

    private static void over() {
        WeaveHouse house = woven("class A { method m(p, q) { push 1; store v; load p; ret; } }",
                "mod M { patch A { head m { push 5; store h; } } }",
                "mod N { patch A { over m { arg 1; store a; push 2; store b; load a; ret; } tail m { value; store c; load c; set; } const m 2 to 3; } }");
        code(house, 0, 0, "push 0 5", "store 0 4", "arg 1 1", "store 1 2", "push 1 3", "store 1 3", "load 1 2", "value 1", "store 1 5", "load 1 5",
                "set 1", "ret 1");
        House.due("owner of the method", house.method(0, 0, 0), -1);
        House.due("owner of its body", house.method(0, 0, 5), 1);
        House.due("parameters", house.method(0, 0, 1), 2);
        House.due("variables of its body", house.method(0, 0, 2), 2);
        House.due("variables of all", house.method(0, 0, 4), 6);
    }

    private static void variables() {
        // Variables of woven bodies are their own at each of their places, as they stand in the code.
        WeaveHouse house = woven("class A { method m(p) { self; null; store v; call m 0; call m 0; ret; } }",
                "mod M { patch A { tail m { null; store x; null; store y; } behind m call m { null; store x; load x; pop; } } }",
                "mod N { patch A { head m { null; store v; } ahead m call m # 2 { null; store p; } } }");
        code(house, 0, 0, "null 1", "store 1 2", "self -1", "null -1", "store -1 1", "call -1", "null 0", "store 0 3", "load 0 3", "pop 0",
                "null 1", "store 1 4", "call -1", "null 0", "store 0 5", "load 0 5", "pop 0", "null 0", "store 0 6", "null 0", "store 0 7", "ret -1");
        House.due("variables of all", house.method(0, 0, 4), 8);
    }

    private static void wrongInputs() {
        WeaveHouse house = woven("class A { method m() { push 4; ret; } } class B { }");
        House.due("order", house.order(0, 0, 0, 2), 4);
        int far = Integer.MAX_VALUE;
        int[][] wrong = {{0, 0, 2, 0}, {0, 0, -1, 0}, {0, 0, far, 0}, {0, 1, 0, 0}, {0, -1, 0, 0}, {0, far, 0, 0}, {1, 0, 0, 0}, {2, 0, 0, 0},
            {-1, 0, 0, 0}, {far, 0, 0, 0}, {0, 0, 0, 3}, {0, 0, 0, -1}};
        for (int[] w : wrong) {
            House.due("order of " + w[0] + " " + w[1] + " " + w[2] + " " + w[3], house.order(w[0], w[1], w[2], w[3]), -1);
        }
        House.due("method of a class without", house.method(1, 0, 0), -1);
        House.due("method of no class", house.method(2, 0, 0), -1);
        House.due("method of class -1", house.method(-1, 0, 0), -1);
        House.due("method 1", house.method(0, 1, 0), -1);
        House.due("method -1", house.method(0, -1, 0), -1);
        House.game(house, "class A { method m() { push 4; ret; } }");
        House.due("order unwoven", house.order(0, 0, 0, 0), -1);
        House.due("method unwoven", house.method(0, 0, 0), -1);
        House.due("klass unwoven", house.klass(0, 0), -1);
    }
}
