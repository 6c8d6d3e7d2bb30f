/** NAME of Part I, a sentence of the document a method: what is told twice or nowhere, and what may be. */
public final class NameEdgeTest {
    private static final String RET = "{ null; ret; }";

    private NameEdgeTest() {
    }

    public static void main(String[] args) {
        classThatIsAlready();
        classBelowInAGame();
        classBelowInAMod();
        fieldOfItsClass();
        methodOfItsClass();
        memberOfItsPatch();
        parameterTwice();
        labelTwice();
        labelThatThereIsNoneOf();
        loadThatNoStoreNames();
        firstOfBothKinds();
        atTheLastBrace();
        House.finish();
    }

    /** "of a class of this text that a class of this text is already". */
    private static void classThatIsAlready() {
        Marked.game(0, "class A { } class B { }");
        Marked.game(Marked.NAME, "class A { } class ^A { }");
        Marked.game(Marked.NAME, "class A { } class B { } class ^A { }");
        Marked.game(Marked.NAME, "class A { } class B { } class ^B : A { }");
        Marked.game(Marked.NAME, House.many(1, 15, "class A%{}") + "class ^A1{}");
        Marked.game(Marked.NAME, House.many(1, 15, "class A%{}") + "class ^A15{}");
        Marked.mod(Marked.NAME, "mod M { class B { } class ^B { } }");
        Marked.mod(Marked.NAME, "mod M { class B { } patch B { } class ^B { } }");
        // A class of the game, the mod's own name and a PATCH of that name are no classes of this text.
        Marked.mod(0, "mod A { patch B { } class A { } class B { } patch A { } }");
        Marked.game(0, "class A { field A; method A() { A: jump A; } }");
    }

    /** "a class told above by this text as what it is below of (of the game: it must be so ..)". */
    private static void classBelowInAGame() {
        Marked.game(0, "class A { } class B : A { }");
        Marked.game(0, "class A { } class B { } class C : A { } class D : C { }");
        Marked.game(Marked.NAME, "class A : ^A { }");
        Marked.game(Marked.NAME, "class A : ^B { }");
        Marked.game(Marked.NAME, "class A : ^B { } class B { }");
        Marked.game(Marked.NAME, "class A { } class B : ^C { } class C : A { }");
        Marked.game(Marked.NAME, "class A { field f; } class B : ^f { }");
        Marked.game(Marked.NAME, "class A { } class B : ^a { }");
        Marked.game(0, House.many(1, 15, "class A%{}") + "class B : A15 { }");
    }

    /** "of a mod: any". */
    private static void classBelowInAMod() {
        Marked.mod(0, "mod M { class B : A { } }");
        Marked.mod(0, "mod M { class B : B { } }");
        Marked.mod(0, "mod M { class B : C { } class C : X { } }");
    }

    /** "a field .. that its class (of this text, its own) has already". */
    private static void fieldOfItsClass() {
        Marked.game(0, "class A { field f; field g; }");
        Marked.game(Marked.NAME, "class A { field f; field ^f; }");
        Marked.game(Marked.NAME, "class A { field f; field g; field ^f; }");
        Marked.game(Marked.NAME, "class A { " + House.many(1, 11, "field f%; ") + "field ^f11; }");
        Marked.game(Marked.NAME, "class A { field f; method m() " + RET + " field ^f; }");
        Marked.game(0, "class A { field f; } class B { field f; }");
        Marked.game(0, "class A { field f; } class B : A { field f; }");
        Marked.game(0, "class A { field f; method f(f) { f: jump f; } }");
        Marked.mod(Marked.NAME, "mod M { class B { field f; field ^f; } }");
        Marked.mod(0, "mod M { class B { field f; } class C : B { field f; } }");
    }

    /** "or a method". */
    private static void methodOfItsClass() {
        Marked.game(0, "class A { method m() " + RET + " method n() " + RET + " }");
        Marked.game(Marked.NAME, "class A { method m() " + RET + " method ^m() " + RET + " }");
        Marked.game(Marked.NAME, "class A { method m() " + RET + " method n() " + RET + " field m; method ^m(a) " + RET + " }");
        Marked.game(Marked.NAME, "class A { " + House.many(1, 11, "method m%()" + RET) + "method ^m1() }");
        Marked.game(0, "class A { method m() " + RET + " } class B : A { method m() " + RET + " }");
        Marked.mod(Marked.NAME, "mod M { class B { method m() " + RET + " method ^m() " + RET + " } }");
    }

    /** "or that its PATCH tells already". */
    private static void memberOfItsPatch() {
        Marked.patch(0, "field f; field g; method f() " + RET + " method g() " + RET);
        Marked.patch(Marked.NAME, "field f; field ^f;");
        Marked.patch(Marked.NAME, "field f; head f { } over f " + RET + " field ^f;");
        Marked.patch(Marked.NAME, "method f() " + RET + " method ^f() " + RET);
        Marked.patch(0, "head m { } method m() " + RET + " head m { } tail m { } over m " + RET + " over m " + RET);
        Marked.mod(0, "mod M { patch A { field f; } patch A { field f; } }");
        Marked.mod(0, "mod M { class B { field f; } patch A { field f; } class C { field f; } }");
    }

    /** "a parameter told twice". */
    private static void parameterTwice() {
        Marked.game(0, "class A { method m(a, b) " + RET + " method n(a, b) " + RET + " }");
        Marked.game(Marked.NAME, "class A { method m(a, ^a) " + RET + " }");
        Marked.game(Marked.NAME, "class A { method m(a, b, ^a, b) " + RET + " }");
        Marked.game(Marked.NAME, "class A { method m(a, b, c, d, e, f, g, ^g) " + RET + " }");
        Marked.patch(Marked.NAME, "method k(a, ^a) " + RET);
        Marked.game(0, "class A { field a; method a(a) { a: load a; ret; } }");
    }

    /** "a LABEL told twice". */
    private static void labelTwice() {
        Marked.body(0, "{ L: null; M: ret; }");
        Marked.body(Marked.NAME, "{ L: null; ^L: ret; }");
        Marked.body(Marked.NAME, "{ L: null; M: pop; jump L; N: null; ^L: ret; }");
        Marked.body(Marked.NAME, "{ L: null; jump X; load y; ^L: foo");
        for (String kind : new String[] {"over m", "head m", "tail m", "ahead m call n", "behind m call n"}) {
            Marked.patch(Marked.NAME, kind + " { L: null; ^L: pop; }");
        }
        // "LABELS are its own" of each body.
        Marked.game(0, "class A { method m() { L: jump L; } method n() { L: jump L; } }");
        Marked.body(0, "{ p: load p; q: store v; v: jump v; }");
        Marked.body(Marked.NAME, "{ " + House.many(1, 29, "L%: self; pop; ") + "^L1: self; ret; }");
    }

    /** "the first jump's or if's LABEL that there is none of (at that WORD)". */
    private static void labelThatThereIsNoneOf() {
        Marked.body(0, "{ jump L; L: null; ret; }");
        Marked.body(0, "{ L: null; if L; null; ret; }");
        Marked.body(Marked.NAME, "{ jump ^L; }");
        Marked.body(Marked.NAME, "{ null; if ^L; null; ret; }");
        Marked.body(Marked.NAME, "{ L: jump L; jump ^M; jump N; }");
        Marked.body(Marked.NAME, "{ L: null; if ^l; jump N; }");
        Marked.body(Marked.NAME, "{ null; store p; jump ^p; }");
        Marked.body(Marked.NAME, "{ jump ^m; }");
        for (String kind : new String[] {"over m", "head m", "tail m", "ahead m call n", "behind m call n"}) {
            Marked.patch(Marked.NAME, "method k() { L: jump L; } " + kind + " { jump ^L; }");
        }
    }

    /** "a load's WORD that is no parameter, and that no store of this BODY names". */
    private static void loadThatNoStoreNames() {
        Marked.body(0, "{ load p; ret; }");
        Marked.body(0, "{ load q; ret; }");
        Marked.body(0, "{ load v; store v; load v; ret; }");
        // A store that can't be come to names it, too.
        Marked.body(0, "{ load v; ret; store v; }");
        Marked.body(Marked.NAME, "{ load ^v; ret; }");
        Marked.body(Marked.NAME, "{ load p; store v; load ^w; ret; }");
        Marked.body(Marked.NAME, "{ load ^f; ret; }");
        Marked.body(Marked.NAME, "{ L: load ^L; ret; }");
        Marked.game(Marked.NAME, "class A { method m(a) { load a; store v; load v; ret; } method n() { load ^a; ret; } }");
        Marked.game(Marked.NAME, "class A { method m(a) { load a; store v; load v; ret; } method n() { load ^v; ret; } }");
        for (String kind : new String[] {"over k", "head k", "tail k", "ahead k call n", "behind k call n"}) {
            Marked.patch(Marked.NAME, "method k(a) { load a; ret; } " + kind + " { load ^a; ret; }".replace("ret", kind.startsWith("over") ? "ret" : "pop"));
            Marked.patch(0, "method k(a) { load a; ret; } " + kind + " { null; store a; L: load a; pop; jump L; }");
        }
    }

    /** "the first of both kinds along the body". */
    private static void firstOfBothKinds() {
        Marked.body(Marked.NAME, "{ load ^v; jump L; }");
        Marked.body(Marked.NAME, "{ jump ^L; load v; }");
        Marked.body(Marked.NAME, "{ null; if ^L; load v; jump M; }");
        Marked.body(Marked.NAME, "{ load p; L: jump L; load ^v; jump M; }");
    }

    /** "at the body's last }": all else of the body comes ahead of it, and it ahead of what is behind the body. */
    private static void atTheLastBrace() {
        Marked.body(Marked.SYNTAX, "{ jump L; load ^}");
        Marked.game(Marked.SYNTAX, "class A { method m() { jump L; ^");
        Marked.body(Marked.MUCH, "{ jump L; call m ^8; }");
        Marked.body(Marked.NAME, "{ jump L; M: null; ^M: ret; }");
        Marked.game(Marked.NAME, "class A { method m() { jump ^L; } method m() { } }");
        Marked.game(Marked.NAME, "class A { method m() { jump ^L; } @");
        Marked.game(Marked.NAME, "class A { method m() { } method n() { jump ^L; } method k() { jump M; } }");
    }
}
