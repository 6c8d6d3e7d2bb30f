/** Promise 6, and Parts I and II: each fault, its kind and its place. */
public final class FaultTest {
    private static final int SYNTAX = 1;
    private static final int NAME = 2;
    private static final int MUCH = 3;
    private static final int PILE = 4;

    private FaultTest() {
    }

    public static void main(String[] args) {
        faultItself();
        tokens();
        gameSyntax();
        modSyntax();
        ordersOfBodies();
        names();
        bodyNames();
        muchOfTexts();
        muchOfBodies();
        muchOfMods();
        lowestKindFirst();
        pile();
        pileOfWovenBodies();
        House.finish();
    }

    /** A text in which ^ stands ahead of the fault, or stands nowhere when there is none. */
    private static void game(int kind, String marked) {
        WeaveHouse house = new WeaveHouse();
        String text = marked.replace("^", "");
        House.due("game " + marked, House.game(house, text) == WeaveHouse.NONE, kind != 0);
        told(house, kind, marked);
    }

    private static void mod(int kind, String marked) {
        WeaveHouse house = new WeaveHouse();
        House.game(house, "class A{}");
        String text = marked.replace("^", "");
        House.due("mod " + marked, House.load(house, text) == WeaveHouse.NONE, kind != 0);
        told(house, kind, marked);
    }

    private static void told(WeaveHouse house, int kind, String marked) {
        House.due("kind of " + marked, house.fault(0), kind);
        House.due("place of " + marked, house.fault(1), marked.indexOf('^'));
    }

    private static void body(int kind, String marked) {
        game(kind, "class A { field f; method m(p, q) " + marked + " }");
    }

    private static void patch(int kind, String marked) {
        mod(kind, "mod M { patch A { " + marked + " } }");
    }

    private static void faultItself() {
        WeaveHouse house = new WeaveHouse();
        House.due("ahead of any", house.fault(0), -1);
        House.due("ahead of any, place", house.fault(1), -1);
        House.load(house, "mod M {}");
        House.due("load without a game reads nothing", house.fault(0), -1);
        House.game(house, "class A{}");
        House.due("no fault", house.fault(0), 0);
        House.due("no fault's place", house.fault(1), -1);
        House.due("fault 2", house.fault(2), -1);
        House.due("fault -1", house.fault(-1), -1);
        House.load(house, "mod M ;");
        House.due("a fault of load", house.fault(0), SYNTAX);
        House.due("a fault's place of load", house.fault(1), 6);
        House.due("fault 2 beside a fault", house.fault(2), -1);
        House.game(house, "class A{} class A{}");
        House.due("the latest one", house.fault(0), NAME);
        House.due("the latest one's place", house.fault(1), 16);
        for (int i = 0; i < 8; i++) {
            House.load(house, "mod M {}");
        }
        House.due("gone behind a text without", house.fault(0), 0);
        House.load(house, "mod {");
        House.due("the ninth mod is not read", house.fault(0), 0);
    }

    private static void tokens() {
        game(0, "class abcdefghij{}");
        game(SYNTAX, "class ^abcdefghijk{}");
        game(0, "class a1b2\n{\n}\n");
        game(SYNTAX, "class A^\t{}");
        game(SYNTAX, "class ^1A{}");
        game(SYNTAX, "class A{}^@");
        game(SYNTAX, "class A{}^\u00e4");
        body(0, "{push 123456789;ret;}");
        body(0, "{push -123456789;ret;}");
        body(SYNTAX, "{push ^1234567890;ret;}");
        body(SYNTAX, "{push ^-1234567890;ret;}");
        body(SYNTAX, "{push ^- 1;ret;}");
        body(SYNTAX, "{push ^-;ret;}");
        body(SYNTAX, "{push ^--1;ret;}");
        body(SYNTAX, "{push 12^x;ret;}");
        body(SYNTAX, "{push 1^-2;ret;}");
        // A token that is none is noticed only as its turn comes.
        game(SYNTAX, "class ^; @");
        game(NAME, "class A{} class ^A @");
    }

    private static void gameSyntax() {
        game(SYNTAX, "^");
        game(SYNTAX, "  \n^");
        game(SYNTAX, "^clas A{}");
        game(SYNTAX, "^mod M{}");
        game(SYNTAX, "^patch A{}");
        game(SYNTAX, "class^");
        game(SYNTAX, "class A^");
        game(SYNTAX, "class A  ^");
        game(SYNTAX, "class A{^");
        game(SYNTAX, "class A{}^}");
        game(SYNTAX, "class A{} ^field f;");
        game(SYNTAX, "class A ^( {}");
        game(SYNTAX, "class A : ^{}");
        game(SYNTAX, "class A{} class B : A ^: A {}");
        game(SYNTAX, "class A{ ^head m{} }");
        game(SYNTAX, "class A{ ^x }");
        game(SYNTAX, "class A{ field ^; }");
        game(SYNTAX, "class A{ field f ^field g; }");
        game(SYNTAX, "class A{ method ^(){null;ret;} }");
        game(SYNTAX, "class A{ method m^{null;ret;} }");
        game(SYNTAX, "class A{ method m(^,){null;ret;} }");
        game(SYNTAX, "class A{ method m(a,^){null;ret;} }");
        game(SYNTAX, "class A{ method m(a ^b){null;ret;} }");
        game(SYNTAX, "class A{ method m() ^; }");
        game(0, "class class{}");
        game(0, "class field{field field;field method;method method(method){push:push 1;ret:ret;}}");
    }

    private static void modSyntax() {
        mod(SYNTAX, "^");
        mod(SYNTAX, "^class A{}");
        mod(SYNTAX, "mod ^{}");
        mod(SYNTAX, "mod M^");
        mod(SYNTAX, "mod M ^wants N {}");
        mod(SYNTAX, "mod M after ^{}");
        mod(SYNTAX, "mod M ^call N {}");
        mod(SYNTAX, "mod M{}^;");
        mod(SYNTAX, "mod M{} ^mod N{}");
        mod(SYNTAX, "mod M{ ^field f; }");
        mod(SYNTAX, "mod M{ patch ^{} }");
        mod(SYNTAX, "mod M{ patch A ^: B {} }");
        mod(SYNTAX, "mod M{ class B{ ^over m{null;ret;} } }");
        mod(SYNTAX, "mod M{ class B{} ^");
        mod(0, "mod after after after needs needs breaks breaks { class C : D {} patch E {} }");
        mod(0, "mod M{}");
        patch(SYNTAX, "^call m{}");
        patch(SYNTAX, "^class B{}");
        patch(SYNTAX, "^patch A{}");
        patch(SYNTAX, "head ^{}");
        patch(SYNTAX, "head m ^call n {}");
        patch(SYNTAX, "head m ^;");
        patch(SYNTAX, "ahead m ^{}");
        patch(SYNTAX, "ahead m ^n {}");
        patch(SYNTAX, "ahead m call ^{}");
        patch(SYNTAX, "ahead m call ^1 {}");
        patch(SYNTAX, "ahead m call n ^1 {}");
        patch(SYNTAX, "behind m call n # ^{}");
        patch(SYNTAX, "behind m call n # 1 ^# 2 {}");
        patch(SYNTAX, "turn m call n ^;");
        patch(SYNTAX, "turn m call n to ^1;");
        patch(SYNTAX, "turn m call n to k ^{}");
        patch(SYNTAX, "const m ^n to 1;");
        patch(SYNTAX, "const m 1 ^too 2;");
        patch(SYNTAX, "const m 1 to ^n;");
        patch(SYNTAX, "const m 1 # 2 to 3 ^}");
        patch(0, "field f; method n(){null;ret;} over m{null;ret;} head m{} tail m{} ahead m call n{} "
                + "ahead m call n#1{} behind m call n # 9{} turn m call n to k; turn m call n#2 to k; "
                + "const m -1 to 1; const m 1#999999999 to -2;");
    }

    private static void ordersOfBodies() {
        body(0, "{ null; pop; push 1; store v; load v; load p; get f; pop; self; dup; push 2; put f; push 3; swap; "
                + "add; push 1; sub; push 1; mul; push 1; div; push 1; less; push 1; same; if L; jump L; "
                + "L: new A; call m 0; out; null; ret; }");
        body(SYNTAX, "{ ^push2; ret; }");
        body(SYNTAX, "{ push ^; ret; }");
        body(SYNTAX, "{ push 1 ^ret; }");
        body(SYNTAX, "{ null; ret ^}");
        body(SYNTAX, "{ load ^1; ret; }");
        body(SYNTAX, "{ self; call m ^; ret; }");
        body(SYNTAX, "{ self; call ^0; ret; }");
        body(SYNTAX, "{ null ^1; ret; }");
        body(SYNTAX, "{ L: ^}");
        body(SYNTAX, "{ L: ^M: null; ret; }");
        body(SYNTAX, "{ ^: null; ret; }");
        body(SYNTAX, "{ ^foo; }");
        body(SYNTAX, "{ ^; }");
        for (String order : new String[] {"arg 0", "give 0", "cancel", "value", "set"}) {
            body(SYNTAX, "{ ^" + order + "; }");
        }
        patch(0, "over m { arg 0; dup; give 0; ret; } head m { arg 0; give 0; null; cancel; } "
                + "tail m { arg 0; give 0; value; set; } ahead m call n { arg 0; give 0; } behind m call n { arg 0; give 0; }");
        for (String order : new String[] {"cancel", "value", "set"}) {
            patch(SYNTAX, "over m { ^" + order + "; }");
            patch(SYNTAX, "ahead m call n { ^" + order + "; }");
            patch(SYNTAX, "behind m call n { ^" + order + "; }");
        }
        patch(SYNTAX, "head m { null; ^ret; }");
        patch(SYNTAX, "tail m { null; ^ret; }");
        patch(SYNTAX, "ahead m call n { null; ^ret; }");
        patch(SYNTAX, "behind m call n { null; ^ret; }");
        patch(SYNTAX, "head m { ^value; }");
        patch(SYNTAX, "head m { ^set; }");
        patch(SYNTAX, "tail m { ^cancel; }");
        patch(SYNTAX, "method n() { ^arg 0; }");
        patch(0, "head m { ret: null; value: pop; }");
    }

    private static void names() {
        game(NAME, "class A{} class B{} class ^A{}");
        game(NAME, "class A{} class B : ^C {} class C{}");
        game(NAME, "class A : ^A {}");
        game(0, "class A{} class B : A {} class C : B {}");
        mod(NAME, "mod M{ class B{} class ^B{} }");
        mod(0, "mod M{ class B : C {} class C : C {} class A{} }");
        game(NAME, "class A{ field f; field g; field ^f; }");
        game(NAME, "class A{ method m(){null;ret;} method ^m(a){null;ret;} }");
        game(0, "class A{ field m; method m(){null;ret;} } class B : A { field m; method m(){null;ret;} }");
        patch(NAME, "field f; head m{} field ^f;");
        patch(NAME, "method n(){null;ret;} method ^n(){null;ret;}");
        mod(0, "mod M{ patch A { field f; } patch A { field f; } class B { field f; } }");
        patch(0, "over m{null;ret;} over m{null;ret;} head m{} head m{}");
        game(NAME, "class A{ method m(a, b, ^a){null;ret;} }");
    }

    private static void bodyNames() {
        body(NAME, "{ L: null; ^L: ret; }");
        body(NAME, "{ null; store v; L: jump ^M; }");
        body(NAME, "{ push 1; if ^M; null; ret; }");
        body(NAME, "{ load ^v; ret; }");
        body(0, "{ jump L; M: load v; ret; L: null; store v; jump M; }");
        body(0, "{ load p; load q; add; ret; }");
        body(NAME, "{ load p; load ^r; jump N; }");
        body(NAME, "{ jump ^N; load r; ret; }");
        // The names are looked at only at the last }, behind other faults of the body.
        body(SYNTAX, "{ load v; jump N; ^foo; }");
        body(NAME, "{ load v; L: jump N; ^L: ret; }");
        // The LABELS and variables of one body are none of another's.
        game(NAME, "class A{ method m(){ L: null; store v; jump L; } method n(){ jump ^L; } }");
        game(NAME, "class A{ method m(){ L: null; store v; jump L; } method n(){ load ^v; ret; } }");
        patch(NAME, "method n(a){ load a; ret; } over n { load ^a; ret; }");
    }

    private static void muchOfTexts() {
        game(0, House.many(1, 16, "class A%{}"));
        game(MUCH, House.many(1, 16, "class A%{}") + "class ^B{}");
        mod(0, "mod M{" + House.many(1, 16, "class A%{}") + "}");
        mod(MUCH, "mod M{" + House.many(1, 16, "class A%{}") + "class ^B{} }");
        game(0, "class A{" + House.many(1, 12, "field f%;") + House.many(1, 12, "method m%(){null;ret;}") + "}");
        game(MUCH, "class A{" + House.many(1, 12, "field f%;") + "field ^f;}");
        game(MUCH, "class A{" + House.many(1, 12, "method m%(){null;ret;}") + "method ^m(){null;ret;} }");
        patch(0, House.many(1, 12, "field f%;") + House.many(1, 12, "method m%(){null;ret;}") + House.many(1, 12, "head m%{}"));
        patch(MUCH, House.many(1, 12, "field f%;") + "field ^f;");
        patch(MUCH, House.many(1, 12, "method m%(){null;ret;}") + "method ^m(){null;ret;}");
    }

    private static void muchOfBodies() {
        String eight = "a, b, c, d, e, f, g, h";
        game(0, "class A{ method m(" + eight + "){null;ret;} }");
        game(MUCH, "class A{ method m(" + eight + ", ^i){null;ret;} }");
        game(0, "class A{ method m(" + eight + "){null; store a; null; store h; load h;ret;} }");
        game(MUCH, "class A{ method m(" + eight + "){null; store ^i; null;ret;} }");
        body(0, "{" + House.many(1, 6, "null;store v%;") + "null;store v1;null;ret;}");
        body(MUCH, "{" + House.many(1, 6, "null;store v%;") + "null;store ^v7;null;ret;}");
        patch(0, "over m {" + House.many(1, 8, "null;store v%;") + "null;ret;}");
        patch(MUCH, "head m {" + House.many(1, 8, "null;store v%;") + "null;store ^v9;}");
        body(0, "{" + House.many(1, 29, "null;pop;") + "null;ret;}");
        body(MUCH, "{" + House.many(1, 29, "null;pop;") + "null;ret;^null;ret;}");
        body(MUCH, "{" + House.many(1, 29, "null;pop;") + "null;pop;L: ^null;ret;}");
        body(0, "{ self;self;self;self;self;self;self;self; call m 7; ret; }");
        body(MUCH, "{ self;self;self;self;self;self;self;self;self; call m ^8; ret; }");
        body(MUCH, "{ self; call m ^-1; ret; }");
        patch(0, "head m { arg 7; give 7; arg 0; give 0; }");
        patch(MUCH, "head m { arg ^8; give 8; }");
        patch(MUCH, "head m { arg ^-1; }");
        patch(MUCH, "head m { arg 1; give ^8; }");
        patch(MUCH, "head m { arg 1; give ^-2; }");
    }

    private static void muchOfMods() {
        mod(0, "mod M after A needs B breaks C after D {}");
        mod(MUCH, "mod M after A needs B breaks C after D needs ^E {}");
        mod(SYNTAX, "mod M after A needs B breaks C after D needs ^{}");
        mod(0, "mod M{" + House.many(1, 8, "patch A{}") + "}");
        mod(MUCH, "mod M{" + House.many(1, 8, "patch A{}") + "class B{} ^patch A{} }");
        patch(0, House.many(1, 3, "over m{null;ret;} head m{} turn m call n to k; const m 1 to 2;"));
        patch(MUCH, House.many(1, 3, "tail m{} ahead m call n{} behind m call n{} const m 1 to 2;") + "field f; ^head m{}");
        patch(MUCH, House.many(1, 12, "head m{}") + "^const m 1 to 2;");
        patch(MUCH, House.many(1, 12, "over m{null;ret;}") + "^over m{null;ret;}");
        mod(0, "mod M{ patch A{" + House.many(1, 12, "head m{}") + "} patch A{ head m{} } }");
        patch(0, "ahead m call n # 1 {}");
        patch(MUCH, "ahead m call n # ^0 {}");
        patch(MUCH, "behind m call n # ^-1 {}");
        patch(MUCH, "turn m call n # ^0 to k;");
        patch(MUCH, "const m 1 # ^0 to 2;");
    }

    private static void lowestKindFirst() {
        game(NAME, House.many(1, 16, "class A%{}") + "class ^A1{}");
        game(NAME, "class A{" + House.many(1, 12, "field f%;") + "field ^f1;}");
        game(NAME, "class A{ method m(a, b, c, d, e, f, g, h, ^a){null;ret;} }");
        body(SYNTAX, "{" + House.many(1, 30, "null;pop;") + "^foo;}");
        patch(SYNTAX, House.many(1, 12, "head m{}") + "^foo m{}");
        // PILE comes behind all the rest, and is told of the first body.
        game(NAME, "class A{ method m(){} } class ^A{}");
        game(PILE, "class A{ method m(){null;ret;} method n() ^{} method k() {} }");
    }

    private static void pile() {
        body(PILE, "^{}");
        body(PILE, "^{ ret; }");
        body(PILE, "^{ null; }");
        body(0, "{ null; null; ret; }");
        body(0, "{ null; ret; pop; pop; add; }");
        body(PILE, "^{ jump L; null; ret; L: pop; null; ret; }");
        body(0, "{ L: jump L; }");
        body(PILE, "^{ L: null; jump L; }");
        body(PILE, "^{ null; if L; null; L: null; ret; }");
        body(0, "{ null; if L; null; pop; L: null; ret; }");
        body(PILE, "^{ L: null; if L; }");
        body(0, "{ null; null; null; null; null; null; null; null; null; null; null; null; ret; }");
        body(PILE, "^{ null; null; null; null; null; null; null; null; null; null; null; null; null; ret; }");
        body(PILE, "^{ self; null;null;null;null;null; null;null;null;null;null; null; dup; ret; }");
        takes("pop", 1);
        takes("store v", 1);
        takes("out", 1);
        takes("get f", 1);
        takes("put f", 2);
        takes("dup", 1);
        takes("swap", 2);
        for (String order : new String[] {"add", "sub", "mul", "div", "less", "same"}) {
            takes(order, 2);
        }
        takes("if L", 1);
        takes("call m 0", 1);
        takes("call m 3", 4);
        takes("ret", 1);
        gives("null", 1);
        gives("self", 1);
        gives("push 1", 1);
        gives("load p", 1);
        gives("new A", 1);
        gives("null; get f", 1);
        gives("null; dup", 2);
        gives("null; null; swap", 2);
        for (String order : new String[] {"add", "sub", "mul", "div", "less", "same"}) {
            gives("null; null; " + order, 1);
        }
        gives("null; null; call m 1", 1);
        gives("null; null; put f", 0);
        gives("null; store v", 0);
        gives("null; out", 0);
        gives("null; pop", 0);
    }

    /** An order needs so many values, and no more. */
    private static void takes(String order, int values) {
        String tail = "; X: jump X; L: jump L; }";
        body(0, "{ " + "null; ".repeat(values) + order + tail);
        body(PILE, "^{ " + "null; ".repeat(values - 1) + order + tail);
    }

    /** Behind these orders there are so many values, and no more. */
    private static void gives(String orders, int values) {
        body(0, "{ " + orders + "; " + "pop; ".repeat(values) + "X: jump X; }");
        body(PILE, "^{ " + orders + "; " + "pop; ".repeat(values + 1) + "X: jump X; }");
    }

    private static void pileOfWovenBodies() {
        patch(0, "head m{} tail m{} ahead m call n{} behind m call n{}");
        patch(PILE, "over m ^{}");
        patch(PILE, "over m ^{ null; }");
        for (String kind : new String[] {"head m", "tail m", "ahead m call n", "behind m call n"}) {
            patch(PILE, kind + " ^{ null; }");
            patch(PILE, kind + " ^{ pop; }");
            patch(0, kind + " { null; pop; }");
            patch(0, kind + " { L: jump L; }");
            patch(0, kind + " { arg 0; give 0; }");
            patch(PILE, kind + " ^{ give 0; }");
            patch(PILE, kind + " ^{ arg 0; }");
        }
        patch(0, "head m { null; null; cancel; }");
        patch(PILE, "head m ^{ cancel; }");
        patch(0, "head m { null; cancel; pop; }");
        patch(0, "tail m { value; set; }");
        patch(PILE, "tail m ^{ value; }");
        patch(PILE, "tail m ^{ set; }");
        patch(PILE, "method k() { null; ret; } method l() ^{} head m{}");
        mod(PILE, "mod M{ class B{ method k() ^{} } patch A{ head m{ pop; } } }");
    }
}
