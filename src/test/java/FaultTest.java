/** Promise 6, and Parts I and II: each fault, its kind and its place. */
public final class FaultTest {
    private FaultTest() {
    }

    public static void main(String[] args) {
        faultItself();
        tokens();
        gameSyntax();
        modSyntax();
        ordersOfBodies();
        names();
        bodyNames();
        muchOfTexts();
        muchOfBodies();
        muchOfMods();
        lowestKindFirst();
        pile();
        pileOfWovenBodies();
        House.finish();
    }

    private static void faultItself() {
        WeaveHouse house = new WeaveHouse();
        House.due("ahead of any", house.fault(0), -1);
        House.due("ahead of any, place", house.fault(1), -1);
        House.load(house, "mod M {}");
        House.due("load without a game reads nothing", house.fault(0), -1);
        House.game(house, "class A{}");
        House.due("no fault", house.fault(0), 0);
        House.due("no fault's place", house.fault(1), -1);
        House.due("fault 2", house.fault(2), -1);
        House.due("fault -1", house.fault(-1), -1);
        House.load(house, "mod M ;");
        House.due("a fault of load", house.fault(0), Marked.SYNTAX);
        House.due("a fault's place of load", house.fault(1), 6);
        House.due("fault 2 beside a fault", house.fault(2), -1);
        House.game(house, "class A{} class A{}");
        House.due("the latest one", house.fault(0), Marked.NAME);
        House.due("the latest one's place", house.fault(1), 16);
        for (int i = 0; i < 8; i++) {
            House.load(house, "mod M {}");
        }
        House.due("gone behind a text without", house.fault(0), 0);
        House.load(house, "mod {");
        House.due("the ninth mod is not read", house.fault(0), 0);
    }

    private static void tokens() {
        Marked.game(0, "class abcdefghij{}");
        Marked.game(Marked.SYNTAX, "class ^abcdefghijk{}");
        Marked.game(0, "class a1b2\n{\n}\n");
        Marked.game(Marked.SYNTAX, "class A^\t{}");
        Marked.game(Marked.SYNTAX, "class ^1A{}");
        Marked.game(Marked.SYNTAX, "class A{}^@");
        Marked.game(Marked.SYNTAX, "class A{}^\u00e4");
        Marked.body(0, "{push 123456789;ret;}");
        Marked.body(0, "{push -123456789;ret;}");
        Marked.body(Marked.SYNTAX, "{push ^1234567890;ret;}");
        Marked.body(Marked.SYNTAX, "{push ^-1234567890;ret;}");
        Marked.body(Marked.SYNTAX, "{push ^- 1;ret;}");
        Marked.body(Marked.SYNTAX, "{push ^-;ret;}");
        Marked.body(Marked.SYNTAX, "{push ^--1;ret;}");
        Marked.body(Marked.SYNTAX, "{push 12^x;ret;}");
        Marked.body(Marked.SYNTAX, "{push 1^-2;ret;}");
        // A token that is none is noticed only as its turn comes.
        Marked.game(Marked.SYNTAX, "class ^; @");
        Marked.game(Marked.NAME, "class A{} class ^A @");
    }

    private static void gameSyntax() {
        Marked.game(Marked.SYNTAX, "^");
        Marked.game(Marked.SYNTAX, "  \n^");
        Marked.game(Marked.SYNTAX, "^clas A{}");
        Marked.game(Marked.SYNTAX, "^mod M{}");
        Marked.game(Marked.SYNTAX, "^patch A{}");
        Marked.game(Marked.SYNTAX, "class^");
        Marked.game(Marked.SYNTAX, "class A^");
        Marked.game(Marked.SYNTAX, "class A  ^");
        Marked.game(Marked.SYNTAX, "class A{^");
        Marked.game(Marked.SYNTAX, "class A{}^}");
        Marked.game(Marked.SYNTAX, "class A{} ^field f;");
        Marked.game(Marked.SYNTAX, "class A ^( {}");
        Marked.game(Marked.SYNTAX, "class A : ^{}");
        Marked.game(Marked.SYNTAX, "class A{} class B : A ^: A {}");
        Marked.game(Marked.SYNTAX, "class A{ ^head m{} }");
        Marked.game(Marked.SYNTAX, "class A{ ^x }");
        Marked.game(Marked.SYNTAX, "class A{ field ^; }");
        Marked.game(Marked.SYNTAX, "class A{ field f ^field g; }");
        Marked.game(Marked.SYNTAX, "class A{ method ^(){null;ret;} }");
        Marked.game(Marked.SYNTAX, "class A{ method m^{null;ret;} }");
        Marked.game(Marked.SYNTAX, "class A{ method m(^,){null;ret;} }");
        Marked.game(Marked.SYNTAX, "class A{ method m(a,^){null;ret;} }");
        Marked.game(Marked.SYNTAX, "class A{ method m(a ^b){null;ret;} }");
        Marked.game(Marked.SYNTAX, "class A{ method m() ^; }");
        Marked.game(0, "class class{}");
        Marked.game(0, "class field{field field;field method;method method(method){push:push 1;ret:ret;}}");
    }

    private static void modSyntax() {
        Marked.mod(Marked.SYNTAX, "^");
        Marked.mod(Marked.SYNTAX, "^class A{}");
        Marked.mod(Marked.SYNTAX, "mod ^{}");
        Marked.mod(Marked.SYNTAX, "mod M^");
        Marked.mod(Marked.SYNTAX, "mod M ^wants N {}");
        Marked.mod(Marked.SYNTAX, "mod M after ^{}");
        Marked.mod(Marked.SYNTAX, "mod M ^call N {}");
        Marked.mod(Marked.SYNTAX, "mod M{}^;");
        Marked.mod(Marked.SYNTAX, "mod M{} ^mod N{}");
        Marked.mod(Marked.SYNTAX, "mod M{ ^field f; }");
        Marked.mod(Marked.SYNTAX, "mod M{ patch ^{} }");
        Marked.mod(Marked.SYNTAX, "mod M{ patch A ^: B {} }");
        Marked.mod(Marked.SYNTAX, "mod M{ class B{ ^over m{null;ret;} } }");
        Marked.mod(Marked.SYNTAX, "mod M{ class B{} ^");
        Marked.mod(0, "mod after after after needs needs breaks breaks { class C : D {} patch E {} }");
        Marked.mod(0, "mod M{}");
        Marked.patch(Marked.SYNTAX, "^call m{}");
        Marked.patch(Marked.SYNTAX, "^class B{}");
        Marked.patch(Marked.SYNTAX, "^patch A{}");
        Marked.patch(Marked.SYNTAX, "head ^{}");
        Marked.patch(Marked.SYNTAX, "head m ^call n {}");
        Marked.patch(Marked.SYNTAX, "head m ^;");
        Marked.patch(Marked.SYNTAX, "ahead m ^{}");
        Marked.patch(Marked.SYNTAX, "ahead m ^n {}");
        Marked.patch(Marked.SYNTAX, "ahead m call ^{}");
        Marked.patch(Marked.SYNTAX, "ahead m call ^1 {}");
        Marked.patch(Marked.SYNTAX, "ahead m call n ^1 {}");
        Marked.patch(Marked.SYNTAX, "behind m call n # ^{}");
        Marked.patch(Marked.SYNTAX, "behind m call n # 1 ^# 2 {}");
        Marked.patch(Marked.SYNTAX, "turn m call n ^;");
        Marked.patch(Marked.SYNTAX, "turn m call n to ^1;");
        Marked.patch(Marked.SYNTAX, "turn m call n to k ^{}");
        Marked.patch(Marked.SYNTAX, "const m ^n to 1;");
        Marked.patch(Marked.SYNTAX, "const m 1 ^too 2;");
        Marked.patch(Marked.SYNTAX, "const m 1 to ^n;");
        Marked.patch(Marked.SYNTAX, "const m 1 # 2 to 3 ^}");
        Marked.patch(0, "field f; method n(){null;ret;} over m{null;ret;} head m{} tail m{} ahead m call n{} "
                + "ahead m call n#1{} behind m call n # 9{} turn m call n to k; turn m call n#2 to k; "
                + "const m -1 to 1; const m 1#999999999 to -2;");
    }

    private static void ordersOfBodies() {
        Marked.body(0, "{ null; pop; push 1; store v; load v; load p; get f; pop; self; dup; push 2; put f; push 3; swap; "
                + "add; push 1; sub; push 1; mul; push 1; div; push 1; less; push 1; same; if L; jump L; "
                + "L: new A; call m 0; out; null; ret; }");
        Marked.body(Marked.SYNTAX, "{ ^push2; ret; }");
        Marked.body(Marked.SYNTAX, "{ push ^; ret; }");
        Marked.body(Marked.SYNTAX, "{ push 1 ^ret; }");
        Marked.body(Marked.SYNTAX, "{ null; ret ^}");
        Marked.body(Marked.SYNTAX, "{ load ^1; ret; }");
        Marked.body(Marked.SYNTAX, "{ self; call m ^; ret; }");
        Marked.body(Marked.SYNTAX, "{ self; call ^0; ret; }");
        Marked.body(Marked.SYNTAX, "{ null ^1; ret; }");
        Marked.body(Marked.SYNTAX, "{ L: ^}");
        Marked.body(Marked.SYNTAX, "{ L: ^M: null; ret; }");
        Marked.body(Marked.SYNTAX, "{ ^: null; ret; }");
        Marked.body(Marked.SYNTAX, "{ ^foo; }");
        Marked.body(Marked.SYNTAX, "{ ^; }");
        for (String order : new String[] {"arg 0", "give 0", "cancel", "value", "set"}) {
            Marked.body(Marked.SYNTAX, "{ ^" + order + "; }");
        }
        Marked.patch(0, "over m { arg 0; dup; give 0; ret; } head m { arg 0; give 0; null; cancel; } "
                + "tail m { arg 0; give 0; value; set; } ahead m call n { arg 0; give 0; } behind m call n { arg 0; give 0; }");
        for (String order : new String[] {"cancel", "value", "set"}) {
            Marked.patch(Marked.SYNTAX, "over m { ^" + order + "; }");
            Marked.patch(Marked.SYNTAX, "ahead m call n { ^" + order + "; }");
            Marked.patch(Marked.SYNTAX, "behind m call n { ^" + order + "; }");
        }
        Marked.patch(Marked.SYNTAX, "head m { null; ^ret; }");
        Marked.patch(Marked.SYNTAX, "tail m { null; ^ret; }");
        Marked.patch(Marked.SYNTAX, "ahead m call n { null; ^ret; }");
        Marked.patch(Marked.SYNTAX, "behind m call n { null; ^ret; }");
        Marked.patch(Marked.SYNTAX, "head m { ^value; }");
        Marked.patch(Marked.SYNTAX, "head m { ^set; }");
        Marked.patch(Marked.SYNTAX, "tail m { ^cancel; }");
        Marked.patch(Marked.SYNTAX, "method n() { ^arg 0; }");
        Marked.patch(0, "head m { ret: null; value: pop; }");
    }

    private static void names() {
        Marked.game(Marked.NAME, "class A{} class B{} class ^A{}");
        Marked.game(Marked.NAME, "class A{} class B : ^C {} class C{}");
        Marked.game(Marked.NAME, "class A : ^A {}");
        Marked.game(0, "class A{} class B : A {} class C : B {}");
        Marked.mod(Marked.NAME, "mod M{ class B{} class ^B{} }");
        Marked.mod(0, "mod M{ class B : C {} class C : C {} class A{} }");
        Marked.game(Marked.NAME, "class A{ field f; field g; field ^f; }");
        Marked.game(Marked.NAME, "class A{ method m(){null;ret;} method ^m(a){null;ret;} }");
        Marked.game(0, "class A{ field m; method m(){null;ret;} } class B : A { field m; method m(){null;ret;} }");
        Marked.patch(Marked.NAME, "field f; head m{} field ^f;");
        Marked.patch(Marked.NAME, "method n(){null;ret;} method ^n(){null;ret;}");
        Marked.mod(0, "mod M{ patch A { field f; } patch A { field f; } class B { field f; } }");
        Marked.patch(0, "over m{null;ret;} over m{null;ret;} head m{} head m{}");
        Marked.game(Marked.NAME, "class A{ method m(a, b, ^a){null;ret;} }");
    }

    private static void bodyNames() {
        Marked.body(Marked.NAME, "{ L: null; ^L: ret; }");
        Marked.body(Marked.NAME, "{ null; store v; L: jump ^M; }");
        Marked.body(Marked.NAME, "{ push 1; if ^M; null; ret; }");
        Marked.body(Marked.NAME, "{ load ^v; ret; }");
        Marked.body(0, "{ jump L; M: load v; ret; L: null; store v; jump M; }");
        Marked.body(0, "{ load p; load q; add; ret; }");
        Marked.body(Marked.NAME, "{ load p; load ^r; jump N; }");
        Marked.body(Marked.NAME, "{ jump ^N; load r; ret; }");
        // The names are looked at only at the last }, behind other faults of the body.
        Marked.body(Marked.SYNTAX, "{ load v; jump N; ^foo; }");
        Marked.body(Marked.NAME, "{ load v; L: jump N; ^L: ret; }");
        // The LABELS and variables of one body are none of another's.
        Marked.game(Marked.NAME, "class A{ method m(){ L: null; store v; jump L; } method n(){ jump ^L; } }");
        Marked.game(Marked.NAME, "class A{ method m(){ L: null; store v; jump L; } method n(){ load ^v; ret; } }");
        Marked.patch(Marked.NAME, "method n(a){ load a; ret; } over n { load ^a; ret; }");
    }

    private static void muchOfTexts() {
        Marked.game(0, House.many(1, 16, "class A%{}"));
        Marked.game(Marked.MUCH, House.many(1, 16, "class A%{}") + "class ^B{}");
        Marked.mod(0, "mod M{" + House.many(1, 16, "class A%{}") + "}");
        Marked.mod(Marked.MUCH, "mod M{" + House.many(1, 16, "class A%{}") + "class ^B{} }");
        Marked.game(0, "class A{" + House.many(1, 12, "field f%;") + House.many(1, 12, "method m%(){null;ret;}") + "}");
        Marked.game(Marked.MUCH, "class A{" + House.many(1, 12, "field f%;") + "field ^f;}");
        Marked.game(Marked.MUCH, "class A{" + House.many(1, 12, "method m%(){null;ret;}") + "method ^m(){null;ret;} }");
        Marked.patch(0, House.many(1, 12, "field f%;") + House.many(1, 12, "method m%(){null;ret;}") + House.many(1, 12, "head m%{}"));
        Marked.patch(Marked.MUCH, House.many(1, 12, "field f%;") + "field ^f;");
        Marked.patch(Marked.MUCH, House.many(1, 12, "method m%(){null;ret;}") + "method ^m(){null;ret;}");
    }

    private static void muchOfBodies() {
        String eight = "a, b, c, d, e, f, g, h";
        Marked.game(0, "class A{ method m(" + eight + "){null;ret;} }");
        Marked.game(Marked.MUCH, "class A{ method m(" + eight + ", ^i){null;ret;} }");
        Marked.game(0, "class A{ method m(" + eight + "){null; store a; null; store h; load h;ret;} }");
        Marked.game(Marked.MUCH, "class A{ method m(" + eight + "){null; store ^i; null;ret;} }");
        Marked.body(0, "{" + House.many(1, 6, "null;store v%;") + "null;store v1;null;ret;}");
        Marked.body(Marked.MUCH, "{" + House.many(1, 6, "null;store v%;") + "null;store ^v7;null;ret;}");
        Marked.patch(0, "over m {" + House.many(1, 8, "null;store v%;") + "null;ret;}");
        Marked.patch(Marked.MUCH, "head m {" + House.many(1, 8, "null;store v%;") + "null;store ^v9;}");
        Marked.body(0, "{" + House.many(1, 29, "null;pop;") + "null;ret;}");
        Marked.body(Marked.MUCH, "{" + House.many(1, 29, "null;pop;") + "null;ret;^null;ret;}");
        Marked.body(Marked.MUCH, "{" + House.many(1, 29, "null;pop;") + "null;pop;L: ^null;ret;}");
        Marked.body(0, "{ self;self;self;self;self;self;self;self; call m 7; ret; }");
        Marked.body(Marked.MUCH, "{ self;self;self;self;self;self;self;self;self; call m ^8; ret; }");
        Marked.body(Marked.MUCH, "{ self; call m ^-1; ret; }");
        Marked.patch(0, "head m { arg 7; give 7; arg 0; give 0; }");
        Marked.patch(Marked.MUCH, "head m { arg ^8; give 8; }");
        Marked.patch(Marked.MUCH, "head m { arg ^-1; }");
        Marked.patch(Marked.MUCH, "head m { arg 1; give ^8; }");
        Marked.patch(Marked.MUCH, "head m { arg 1; give ^-2; }");
    }

    private static void muchOfMods() {
        Marked.mod(0, "mod M after A needs B breaks C after D {}");
        Marked.mod(Marked.MUCH, "mod M after A needs B breaks C after D needs ^E {}");
        Marked.mod(Marked.SYNTAX, "mod M after A needs B breaks C after D needs ^{}");
        Marked.mod(0, "mod M{" + House.many(1, 8, "patch A{}") + "}");
        Marked.mod(Marked.MUCH, "mod M{" + House.many(1, 8, "patch A{}") + "class B{} ^patch A{} }");
        Marked.patch(0, House.many(1, 3, "over m{null;ret;} head m{} turn m call n to k; const m 1 to 2;"));
        Marked.patch(Marked.MUCH, House.many(1, 3, "tail m{} ahead m call n{} behind m call n{} const m 1 to 2;") + "field f; ^head m{}");
        Marked.patch(Marked.MUCH, House.many(1, 12, "head m{}") + "^const m 1 to 2;");
        Marked.patch(Marked.MUCH, House.many(1, 12, "over m{null;ret;}") + "^over m{null;ret;}");
        Marked.mod(0, "mod M{ patch A{" + House.many(1, 12, "head m{}") + "} patch A{ head m{} } }");
        Marked.patch(0, "ahead m call n # 1 {}");
        Marked.patch(Marked.MUCH, "ahead m call n # ^0 {}");
        Marked.patch(Marked.MUCH, "behind m call n # ^-1 {}");
        Marked.patch(Marked.MUCH, "turn m call n # ^0 to k;");
        Marked.patch(Marked.MUCH, "const m 1 # ^0 to 2;");
    }

    private static void lowestKindFirst() {
        Marked.game(Marked.NAME, House.many(1, 16, "class A%{}") + "class ^A1{}");
        Marked.game(Marked.NAME, "class A{" + House.many(1, 12, "field f%;") + "field ^f1;}");
        Marked.game(Marked.NAME, "class A{ method m(a, b, c, d, e, f, g, h, ^a){null;ret;} }");
        Marked.body(Marked.SYNTAX, "{" + House.many(1, 30, "null;pop;") + "^foo;}");
        Marked.patch(Marked.SYNTAX, House.many(1, 12, "head m{}") + "^foo m{}");
        // PILE comes behind all the rest, and is told of the first body.
        Marked.game(Marked.NAME, "class A{ method m(){} } class ^A{}");
        Marked.game(Marked.PILE, "class A{ method m(){null;ret;} method n() ^{} method k() {} }");
    }

    private static void pile() {
        Marked.body(Marked.PILE, "^{}");
        Marked.body(Marked.PILE, "^{ ret; }");
        Marked.body(Marked.PILE, "^{ null; }");
        Marked.body(0, "{ null; null; ret; }");
        Marked.body(0, "{ null; ret; pop; pop; add; }");
        Marked.body(Marked.PILE, "^{ jump L; null; ret; L: pop; null; ret; }");
        Marked.body(0, "{ L: jump L; }");
        Marked.body(Marked.PILE, "^{ L: null; jump L; }");
        Marked.body(Marked.PILE, "^{ null; if L; null; L: null; ret; }");
        Marked.body(0, "{ null; if L; null; pop; L: null; ret; }");
        Marked.body(Marked.PILE, "^{ L: null; if L; }");
        Marked.body(0, "{ null; null; null; null; null; null; null; null; null; null; null; null; ret; }");
        Marked.body(Marked.PILE, "^{ null; null; null; null; null; null; null; null; null; null; null; null; null; ret; }");
        Marked.body(Marked.PILE, "^{ self; null;null;null;null;null; null;null;null;null;null; null; dup; ret; }");
        takes("pop", 1);
        takes("store v", 1);
        takes("out", 1);
        takes("get f", 1);
        takes("put f", 2);
        takes("dup", 1);
        takes("swap", 2);
        for (String order : new String[] {"add", "sub", "mul", "div", "less", "same"}) {
            takes(order, 2);
        }
        takes("if L", 1);
        takes("call m 0", 1);
        takes("call m 3", 4);
        takes("ret", 1);
        gives("null", 1);
        gives("self", 1);
        gives("push 1", 1);
        gives("load p", 1);
        gives("new A", 1);
        gives("null; get f", 1);
        gives("null; dup", 2);
        gives("null; null; swap", 2);
        for (String order : new String[] {"add", "sub", "mul", "div", "less", "same"}) {
            gives("null; null; " + order, 1);
        }
        gives("null; null; call m 1", 1);
        gives("null; null; put f", 0);
        gives("null; store v", 0);
        gives("null; out", 0);
        gives("null; pop", 0);
    }

    /** An order needs so many values, and no more. */
    private static void takes(String order, int values) {
        String tail = "; X: jump X; L: jump L; }";
        Marked.body(0, "{ " + "null; ".repeat(values) + order + tail);
        Marked.body(Marked.PILE, "^{ " + "null; ".repeat(values - 1) + order + tail);
    }

    /** Behind these orders there are so many values, and no more. */
    private static void gives(String orders, int values) {
        Marked.body(0, "{ " + orders + "; " + "pop; ".repeat(values) + "X: jump X; }");
        Marked.body(Marked.PILE, "^{ " + orders + "; " + "pop; ".repeat(values + 1) + "X: jump X; }");
    }

    private static void pileOfWovenBodies() {
        Marked.patch(0, "head m{} tail m{} ahead m call n{} behind m call n{}");
        Marked.patch(Marked.PILE, "over m ^{}");
        Marked.patch(Marked.PILE, "over m ^{ null; }");
        for (String kind : new String[] {"head m", "tail m", "ahead m call n", "behind m call n"}) {
            Marked.patch(Marked.PILE, kind + " ^{ null; }");
            Marked.patch(Marked.PILE, kind + " ^{ pop; }");
            Marked.patch(0, kind + " { null; pop; }");
            Marked.patch(0, kind + " { L: jump L; }");
            Marked.patch(0, kind + " { arg 0; give 0; }");
            Marked.patch(Marked.PILE, kind + " ^{ give 0; }");
            Marked.patch(Marked.PILE, kind + " ^{ arg 0; }");
        }
        Marked.patch(0, "head m { null; null; cancel; }");
        Marked.patch(Marked.PILE, "head m ^{ cancel; }");
        Marked.patch(0, "head m { null; cancel; pop; }");
        Marked.patch(0, "tail m { value; set; }");
        Marked.patch(Marked.PILE, "tail m ^{ value; }");
        Marked.patch(Marked.PILE, "tail m ^{ set; }");
        Marked.patch(Marked.PILE, "method k() { null; ret; } method l() ^{} head m{}");
        Marked.mod(Marked.PILE, "mod M{ class B{ method k() ^{} } patch A{ head m{ pop; } } }");
    }
}
