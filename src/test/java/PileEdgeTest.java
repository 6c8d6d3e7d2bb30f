/** PILE of Part I and the DEPTH of Part II, a sentence of the document a method. */
public final class PileEdgeTest {
    private static final String[] WOVEN = {"head m", "tail m", "ahead m call n", "behind m call n"};

    private PileEdgeTest() {
    }

    public static void main(String[] args) {
        zeroAtTheFirst();
        takesAndGives();
        callTakes();
        wovenTakesAndGives();
        atMost12Behind();
        atMost12BehindWoven();
        goesOnBehind();
        sameByWhateverWay();
        behindTheLastOrder();
        othersComeThereWith0();
        cantBeComeTo();
        withoutOrders();
        bodyByBody();
        behindTheWholeText();
        House.finish();
    }

    /** A method's body that has these orders and then no end. */
    private static void ends(int kind, String orders) {
        Marked.body(kind, (kind == 0 ? "" : "^") + "{ " + orders + " L: jump L; }");
    }

    /** "0 at its first one". */
    private static void zeroAtTheFirst() {
        ends(Marked.PILE, "pop;");
        ends(0, "null; pop;");
        ends(Marked.PILE, "null; pop; pop;");
        // Parameters are not on the pile.
        ends(Marked.PILE, "store p;");
        for (String kind : WOVEN) {
            Marked.patch(Marked.PILE, kind + " ^{ pop; }");
            Marked.patch(Marked.PILE, kind + " ^{ dup; pop; pop; }");
        }
        Marked.patch(Marked.PILE, "over m ^{ ret; }");
    }

    /** "An ORDER takes and gives": as many as it takes, one less; as many as it gives, one more. */
    private static void takesAndGives() {
        String[] orders = {"push 1", "null", "load p", "new A", "self", "store v", "pop", "out", "get f", "put f", "dup", "swap", "add", "sub", "mul", "div", "less", "same"};
        int[] takes = {0, 0, 0, 0, 0, 1, 1, 1, 1, 2, 1, 2, 2, 2, 2, 2, 2, 2};
        int[] gives = {1, 1, 1, 1, 1, 0, 0, 0, 1, 0, 2, 2, 1, 1, 1, 1, 1, 1};
        for (int i = 0; i < orders.length; i++) {
            for (int have = 0; have <= 3; have++) {
                boolean holds = have >= takes[i];
                int behind = have - takes[i] + gives[i];
                ends(holds ? 0 : Marked.PILE, "null; ".repeat(have) + orders[i] + ";");
                if (holds) {
                    ends(0, "null; ".repeat(have) + orders[i] + "; " + "pop; ".repeat(behind));
                    ends(Marked.PILE, "null; ".repeat(have) + orders[i] + "; " + "pop; ".repeat(behind + 1));
                }
            }
        }
        ends(Marked.PILE, "if L;");
        Marked.body(0, "{ null; if L; L: null; ret; }");
        Marked.body(Marked.PILE, "^{ null; if L; L: ret; }");
        Marked.body(0, "{ jump L; L: null; ret; }");
        Marked.body(Marked.PILE, "^{ jump L; L: ret; }");
        Marked.body(Marked.PILE, "^{ ret; }");
        Marked.body(0, "{ null; ret; }");
        Marked.body(0, "{ null; null; ret; }");
    }

    /** "call m n: n + 1 and 1". */
    private static void callTakes() {
        for (int n = 0; n <= 7; n++) {
            ends(0, "self; ".repeat(n + 1) + "call m " + n + "; pop;");
            ends(Marked.PILE, "self; ".repeat(n + 1) + "call m " + n + "; pop; pop;");
            ends(Marked.PILE, "self; ".repeat(n) + "call m " + n + ";");
            ends(0, "self; ".repeat(n + 2) + "call m " + n + "; pop; pop;");
        }
    }

    /** "arg, value 0 and 1; give, set 1 and 0; .. cancel 1". */
    private static void wovenTakesAndGives() {
        for (String kind : WOVEN) {
            Marked.patch(0, kind + " { arg 0; pop; }");
            Marked.patch(Marked.PILE, kind + " ^{ arg 0; }");
            Marked.patch(Marked.PILE, kind + " ^{ arg 0; pop; pop; }");
            Marked.patch(0, kind + " { null; give 0; }");
            Marked.patch(Marked.PILE, kind + " ^{ give 0; }");
            Marked.patch(Marked.PILE, kind + " ^{ null; null; give 0; }");
        }
        Marked.patch(0, "tail m { value; pop; }");
        Marked.patch(Marked.PILE, "tail m ^{ value; }");
        Marked.patch(0, "tail m { null; set; }");
        Marked.patch(Marked.PILE, "tail m ^{ set; }");
        Marked.patch(Marked.PILE, "tail m ^{ null; null; set; }");
        Marked.patch(0, "head m { null; cancel; }");
        Marked.patch(0, "head m { null; null; null; cancel; }");
        Marked.patch(Marked.PILE, "head m ^{ cancel; }");
        Marked.patch(0, "over m { arg 0; ret; }");
        Marked.patch(Marked.PILE, "over m ^{ arg 0; give 0; ret; }");
    }

    /** "at most 12 behind". */
    private static void atMost12Behind() {
        String eleven = "null; ".repeat(11);
        for (String order : new String[] {"push 1", "null", "load p", "new A", "self", "dup"}) {
            ends(0, eleven + order + ";");
            ends(Marked.PILE, eleven + "null; " + order + ";");
            ends(0, eleven + order + "; pop; " + order + ";");
        }
        // What gives no more than it takes may be done with 12.
        for (String order : new String[] {"store v", "pop", "out", "get f", "put f", "swap", "add", "sub", "mul", "div", "less", "same", "call m 0", "call m 7"}) {
            ends(0, eleven + "null; " + order + ";");
        }
        Marked.body(0, "{ " + eleven + "null; ret; }");
        Marked.body(Marked.PILE, "^{ " + eleven + "null; null; ret; }");
        Marked.body(0, "{ " + eleven + "null; if L; L: ret; }");
        Marked.body(0, "{ " + eleven + "null; jump L; L: ret; }");
    }

    private static void atMost12BehindWoven() {
        for (String kind : WOVEN) {
            Marked.patch(0, kind + " { " + "arg 0; ".repeat(12) + "give 0; ".repeat(12) + "}");
            Marked.patch(Marked.PILE, kind + " ^{ " + "arg 0; ".repeat(13) + "give 0; ".repeat(13) + "}");
        }
        Marked.patch(0, "tail m { " + "value; ".repeat(12) + "set; ".repeat(12) + "}");
        Marked.patch(Marked.PILE, "tail m ^{ " + "value; ".repeat(13) + "set; ".repeat(13) + "}");
        Marked.patch(0, "head m { " + "null; ".repeat(12) + "cancel; }");
        Marked.patch(Marked.PILE, "head m ^{ " + "null; ".repeat(13) + "cancel; }");
        Marked.patch(0, "over m { " + "arg 0; ".repeat(12) + "ret; }");
        Marked.patch(Marked.PILE, "over m ^{ " + "arg 0; ".repeat(13) + "ret; }");
    }

    /** "It goes on behind it, but not of jump, ret, cancel; of jump and if at the LABEL." */
    private static void goesOnBehind() {
        Marked.body(0, "{ null; ret; pop; }");
        Marked.body(0, "{ L: jump L; pop; }");
        Marked.patch(0, "head m { null; cancel; pop; }");
        Marked.body(Marked.PILE, "^{ null; if L; pop; L: null; ret; }");
        Marked.body(Marked.PILE, "^{ jump L; null; ret; L: pop; null; ret; }");
        Marked.body(Marked.PILE, "^{ null; if L; null; ret; L: pop; null; ret; }");
        Marked.body(0, "{ null; null; if L; ret; L: ret; }");
        Marked.body(Marked.PILE, "^{ null; null; if L; ret; L: pop; ret; }");
    }

    /** "Wherever it can be come to, by whatever way, the DEPTH must be the same". */
    private static void sameByWhateverWay() {
        Marked.body(0, "{ null; if L; null; pop; L: null; ret; }");
        Marked.body(Marked.PILE, "^{ null; if L; null; L: null; ret; }");
        Marked.body(Marked.PILE, "^{ null; null; if L; pop; L: null; ret; }");
        // Back to one that was come to.
        Marked.body(0, "{ L: null; if L; null; ret; }");
        Marked.body(Marked.PILE, "^{ L: null; null; if L; ret; }");
        Marked.body(Marked.PILE, "^{ L: null; jump L; }");
        Marked.body(Marked.PILE, "^{ null; L: dup; if L; if L; null; ret; }");
        Marked.body(0, "{ null; L: dup; if L; ret; }");
        // By two jumps.
        Marked.body(0, "{ null; if M; null; jump L; M: null; jump L; L: ret; }");
        Marked.body(Marked.PILE, "^{ null; if M; null; jump L; M: null; null; jump L; L: ret; }");
        // The end is come to with 0 by one way and not by another.
        Marked.patch(0, "head m { null; if L; null; pop; jump E; L: jump L; E: null; pop; }");
        Marked.patch(Marked.PILE, "head m ^{ null; null; if L; pop; L: null; pop; }");
    }

    /** "a BODY of a method (and of over) must not go on behind its last ORDER". */
    private static void behindTheLastOrder() {
        for (String orders : new String[] {"", "null;", "null; pop;", "null; store v;", "L: null; if L;", "null; if L; null; ret; L: null;",
            "self; call m 0; pop;", "null; out;"}) {
            Marked.body(Marked.PILE, "^{ " + orders + " }");
            Marked.patch(Marked.PILE, "over m ^{ " + orders + " }");
        }
        for (String orders : new String[] {"null; ret;", "L: jump L;", "null; ret; pop;", "jump L; M: null; ret; L: jump M;", "null; if L; null; ret; L: null; ret;"}) {
            Marked.body(0, "{ " + orders + " }");
            Marked.patch(0, "over m { " + orders + " }");
        }
    }

    /** "others come there with DEPTH 0 or not at all". */
    private static void othersComeThereWith0() {
        for (String kind : WOVEN) {
            Marked.patch(0, kind + " { null; pop; }");
            Marked.patch(0, kind + " { L: jump L; }");
            Marked.patch(0, kind + " { L: null; if L; }");
            Marked.patch(Marked.PILE, kind + " ^{ null; }");
            Marked.patch(Marked.PILE, kind + " ^{ L: null; null; pop; if L; null; }");
            Marked.patch(Marked.PILE, kind + " ^{ null; null; if L; L: out; null; }");
        }
        Marked.patch(0, "head m { null; cancel; }");
        Marked.patch(0, "head m { null; if L; null; cancel; L: null; pop; }");
        Marked.patch(Marked.PILE, "head m ^{ null; if L; null; cancel; L: null; }");
    }

    /** "(ORDERS that can't be come to are not asked.)" */
    private static void cantBeComeTo() {
        Marked.body(0, "{ null; ret; pop; pop; add; call m 7; ret; }");
        Marked.body(0, "{ null; ret; " + "null; ".repeat(30) + "}");
        Marked.body(0, "{ jump E; L: pop; jump L; M: null; jump M; E: null; ret; }");
        Marked.body(0, "{ L: jump L; null; if L; null; null; if L; }");
        Marked.patch(0, "head m { null; cancel; pop; pop; null; }");
        Marked.patch(0, "tail m { L: jump L; set; set; value; }");
        Marked.body(0, "{ null; ret; jump L; L: pop; }");
    }

    /** "A BODY without ORDERS is come to the end of at once." */
    private static void withoutOrders() {
        Marked.body(Marked.PILE, "^{}");
        Marked.patch(Marked.PILE, "method k() ^{ }");
        Marked.patch(Marked.PILE, "over m ^{ }");
        for (String kind : WOVEN) {
            Marked.patch(0, kind + " { }");
        }
    }

    /** "Then, BODY by BODY in order, 4 PILE, at the BODY's {". */
    private static void bodyByBody() {
        Marked.game(Marked.PILE, "class A { method m() ^{ } method n() { } }");
        Marked.game(Marked.PILE, "class A { method m() { null; ret; } method n(a, b)\n ^{ } } class B { method k() { } }");
        Marked.game(Marked.PILE, "class A { } class B { method m() { null; ret; } } class C { field f; method k() ^{ pop; } }");
        Marked.patch(Marked.PILE, "head m { } tail m ^{ set; } ahead m call n # 1 { pop; }");
        Marked.patch(Marked.PILE, "ahead m call n # 1 ^{ pop; } const m 1 to 2;");
        Marked.patch(Marked.PILE, "turn m call n to k; behind m call n ^{ pop; }");
        Marked.mod(Marked.PILE, "mod M { patch A { head m { } } class B { method k() ^{ } } patch A { head m { pop; } } }");
    }

    /** "(It is looked at behind 1 to 3 of the whole text.)" */
    private static void behindTheWholeText() {
        Marked.game(Marked.SYNTAX, "class A { method m() { } } ^;");
        Marked.game(Marked.SYNTAX, "class A { method m() { } ^");
        Marked.game(Marked.NAME, "class A { method m() { } } class ^A { }");
        Marked.game(Marked.NAME, "class A { method m() { } method n() { load ^v; } }");
        Marked.game(Marked.MUCH, "class A { method m() { } method n() { pop; call m ^8; } }");
        Marked.mod(Marked.SYNTAX, "mod M { patch A { over m { } } } ^}");
        Marked.mod(Marked.MUCH, "mod M { patch A { over m { } } " + "patch A { } ".repeat(7) + "^patch A { } }");
    }
}
