/** MUCH of Part I, a limit of the document a method: as many as there may be, and one more. */
public final class MuchEdgeTest {
    private static final String[] WOVEN = {"over m", "head m", "tail m", "ahead m call n", "behind m call n"};
    private static final String[] OTHERS = {"over m{L:jump L;}", "head m{}", "tail m{}", "ahead m call n{}", "behind m call n#1{}", "turn m call n to k;", "const m 1 to 2;"};

    private MuchEdgeTest() {
    }

    public static void main(String[] args) {
        classes();
        fields();
        methods();
        parameters();
        variables();
        parametersAndVariables();
        orders();
        patches();
        thingsElse();
        wishes();
        smallNumbers();
        numberSigns();
        lowestKind();
        House.finish();
    }

    /** "a 17th class of a text". */
    private static void classes() {
        Marked.game(0, House.many(1, 15, "class A%{}"));
        Marked.game(0, House.many(1, 16, "class A%{}"));
        Marked.game(Marked.MUCH, House.many(1, 16, "class A%{}") + "class ^B{}");
        Marked.game(Marked.MUCH, House.many(1, 16, "class A%{}") + "class ^B:A1{}");
        Marked.game(Marked.MUCH, House.many(1, 16, "class A%{}") + "class ^B:C{}");
        Marked.mod(0, "mod M{" + House.many(1, 16, "class A%{}") + "}");
        Marked.mod(Marked.MUCH, "mod M{" + House.many(1, 16, "class A%{}") + "class ^B{}}");
        // PATCHES are none of them.
        Marked.mod(0, "mod M{" + "patch A{}".repeat(8) + House.many(1, 16, "class A%{}") + "}");
        Marked.mod(Marked.MUCH, "mod M{" + House.many(1, 16, "class A%{}") + "patch A{} class ^B{}}");
        WeaveHouse house = new WeaveHouse();
        House.due("sixteen", House.game(house, House.many(1, 16, "class A%{}")), 16);
    }

    /** "a 13th field .. of a class or PATCH (each)". */
    private static void fields() {
        String twelve = House.many(1, 12, "field f%;");
        Marked.game(0, "class A{" + twelve + "}");
        Marked.game(Marked.MUCH, "class A{" + twelve + "field ^f;}");
        Marked.game(Marked.MUCH, "class A{}class B{" + twelve + "method m(){null;ret;}field ^f;}");
        Marked.game(0, "class A{" + twelve + "}class B:A{" + twelve + "}");
        Marked.mod(0, "mod M{class B{" + twelve + "}}");
        Marked.mod(Marked.MUCH, "mod M{class B{" + twelve + "field ^f;}}");
        Marked.patch(0, twelve);
        Marked.patch(Marked.MUCH, twelve + "field ^f;");
        Marked.patch(0, twelve + "}patch A{" + twelve);
        Marked.mod(0, "mod M{class A{" + twelve + "}patch A{" + House.many(1, 12, "field g%;") + "}}");
    }

    /** "or method of a class or PATCH (each)": fields are none of them. */
    private static void methods() {
        String twelve = House.many(1, 12, "method m%(){L:jump L;}");
        String fields = House.many(1, 12, "field m%;");
        Marked.game(0, "class A{" + twelve + "}");
        Marked.game(Marked.MUCH, "class A{" + twelve + "method ^m(){L:jump L;}}");
        Marked.game(0, "class A{" + fields + twelve + "}class B{" + twelve + fields + "}");
        Marked.mod(0, "mod M{class B{" + twelve + "}}");
        Marked.mod(Marked.MUCH, "mod M{class B{" + twelve + "method ^m(");
        Marked.patch(0, twelve);
        Marked.patch(Marked.MUCH, twelve + "method ^m(){L:jump L;}");
        Marked.patch(0, fields + twelve + "head m{}".repeat(12));
        Marked.patch(Marked.MUCH, "head m{}".repeat(12) + fields + twelve + "method ^m");
    }

    /** "a 9th parameter". */
    private static void parameters() {
        Marked.game(0, "class A{method m(a,b,c,d,e,f,g){L:jump L;}}");
        Marked.game(0, "class A{method m(a,b,c,d,e,f,g,h){L:jump L;}}");
        Marked.game(Marked.MUCH, "class A{method m(a,b,c,d,e,f,g,h,^i){L:jump L;}}");
        Marked.game(Marked.SYNTAX, "class A{method m(a,b,c,d,e,f,g,h,^){L:jump L;}}");
        Marked.patch(0, "method m(a,b,c,d,e,f,g,h){L:jump L;}");
        Marked.patch(Marked.MUCH, "method m(a,b,c,d,e,f,g,h,^i){L:jump L;}");
        Marked.game(0, "class A{method m(a,b,c,d,e,f,g,h){L:jump L;}method n(i,j,k,l,m,n,o,p){L:jump L;}}");
    }

    /** "or variable": a word that is stored again is no further one, nor is one that is loaded. */
    private static void variables() {
        String eight = House.many(1, 8, "null;store v%;");
        Marked.game(0, "class A{method m(){" + eight + "null;store v8;null;store v1;load v3;ret;}}");
        Marked.game(Marked.MUCH, "class A{method m(){" + eight + "null;store ^v9;null;ret;}}");
        Marked.game(0, "class A{method m(){" + eight + "null;ret;}method n(){" + eight.replace("v", "w") + "null;ret;}}");
        for (String kind : WOVEN) {
            Marked.patch(0, kind + "{" + eight + "L:jump L;}");
            Marked.patch(Marked.MUCH, kind + "{" + eight + "null;store ^v9;L:jump L;}");
        }
        Marked.game(Marked.MUCH, "class A{method m(){load v9;" + eight + "store ^v9;null;ret;}}");
        // Of a body that can't be come to, too.
        Marked.game(Marked.MUCH, "class A{method m(){null;ret;" + House.many(1, 8, "store v%;") + "store ^v9;}}");
    }

    /** "Parameters and variables (those that a store names, and no parameter is) of a BODY are 8 at most". */
    private static void parametersAndVariables() {
        for (int params = 1; params <= 8; params++) {
            String names = House.many(2, params, "p%,") + "p1";
            String stores = House.many(params + 1, 8, "null;store v%;") + House.many(1, params, "null;store p%;");
            Marked.game(0, "class A{method m(" + names + "){" + stores + "null;ret;}}");
            Marked.game(Marked.MUCH, "class A{method m(" + names + "){" + stores + "null;store ^v;null;ret;}}");
        }
        // The parameters of a method are none of what an over or a woven body names.
        Marked.patch(0, "method k(a,b,c,d,e,f,g,h){L:jump L;}over k{" + House.many(1, 8, "null;store v%;") + "null;ret;}head k{" + House.many(1, 8, "null;store v%;") + "}");
    }

    /** "a 61st ORDER". */
    private static void orders() {
        String sixty = "self;pop;".repeat(28) + "self;dup;pop;";
        Marked.body(0, "{" + sixty + "ret;}");
        Marked.body(Marked.MUCH, "{" + sixty + "ret;^ret;}");
        Marked.body(Marked.MUCH, "{" + sixty + "ret;^push");
        Marked.body(Marked.MUCH, "{" + sixty + "ret;L:^jump L;}");
        Marked.body(Marked.NAME, "{L:" + sixty + "ret;^L:jump L;}");
        Marked.body(Marked.SYNTAX, "{" + sixty + "ret;^foo;}");
        Marked.body(Marked.SYNTAX, "{" + sixty + "ret;L:^foo;}");
        for (String kind : WOVEN) {
            Marked.patch(0, kind + "{" + sixty + "L:jump L;}");
            Marked.patch(Marked.MUCH, kind + "{" + sixty + "L:jump L;^jump L;}");
        }
        // Labels at all of them.
        Marked.body(0, "{" + House.many(1, 60, "L%:jump L%;") + "}");
        Marked.body(Marked.MUCH, "{" + House.many(1, 60, "L%:jump L%;") + "L:^jump L;}");
    }

    /** "a 9th PATCH of a mod". */
    private static void patches() {
        Marked.mod(0, "mod M{" + "patch A{}".repeat(8) + "}");
        Marked.mod(Marked.MUCH, "mod M{" + "patch A{}".repeat(8) + "^patch A{}}");
        Marked.mod(Marked.MUCH, "mod M{" + House.many(1, 8, "patch A%{}") + "^patch");
        Marked.mod(Marked.MUCH, "mod M{patch A{}class B{}" + "patch A{}".repeat(7) + "class C{}^patch A{}}");
        Marked.mod(0, "mod M{" + House.many(1, 16, "class A%{}") + "patch A{}".repeat(8) + "}");
    }

    /** "a 13th thing else of a PATCH (over to const, together)". */
    private static void thingsElse() {
        for (String thing : OTHERS) {
            Marked.patch(0, thing.repeat(12));
            Marked.patch(Marked.MUCH, thing.repeat(12) + "^" + thing);
            Marked.patch(Marked.MUCH, "head m{}".repeat(12) + "^" + thing);
            Marked.patch(Marked.MUCH, thing.repeat(12) + "field f;method n(){L:jump L;}^tail m{}");
            Marked.patch(0, thing.repeat(12) + "}patch A{" + thing.repeat(12));
        }
        Marked.patch(0, String.join("", OTHERS) + "field a;field b;" + "head m{}".repeat(5));
        Marked.patch(Marked.MUCH, String.join("", OTHERS) + "field a;field b;" + "head m{}".repeat(5) + "^head");
    }

    /** "a 5th wish (after, needs, breaks together)", at its WORD. */
    private static void wishes() {
        String[] kinds = {"after", "needs", "breaks"};
        for (String kind : kinds) {
            for (String last : kinds) {
                String three = (" " + kind + " X").repeat(3);
                Marked.mod(0, "mod M" + three + " " + last + " Y{}");
                Marked.mod(Marked.MUCH, "mod M" + three + " " + last + " Y " + last + " ^Z{}");
                Marked.mod(Marked.MUCH, "mod M" + three + " " + kind + " Y " + last + " ^Y{}");
                Marked.mod(Marked.SYNTAX, "mod M" + three + " " + kind + " Y " + last + "^");
            }
        }
        Marked.mod(0, "mod M{}");
    }

    /** "a number of call, arg or give above 7 or below 0". */
    private static void smallNumbers() {
        for (int number = 0; number <= 7; number++) {
            Marked.body(0, "{" + "self;".repeat(number + 1) + "call m " + number + ";ret;}");
            Marked.patch(0, "over m{arg " + number + ";give " + number + ";null;ret;}");
        }
        for (String number : new String[] {"8", "9", "-1", "-8", "999999999", "-999999999", "007008"}) {
            Marked.body(Marked.MUCH, "{" + "self;".repeat(9) + "call m ^" + number + ";ret;}");
            Marked.body(Marked.MUCH, "{" + "self;".repeat(9) + "call m ^" + number + " @");
            for (String kind : WOVEN) {
                Marked.patch(Marked.MUCH, kind + "{arg ^" + number + ";pop;}");
                Marked.patch(Marked.MUCH, kind + "{null;give ^" + number + ";}");
                Marked.patch(Marked.MUCH, kind + "{" + "self;".repeat(9) + "call m ^" + number + ";pop;}");
            }
        }
        // A push may have any.
        Marked.body(0, "{push 8;push -1;add;ret;}");
        // -0 is 0.
        Marked.body(0, "{self;call m -0;ret;}");
        Marked.body(0, "{self;self;call m 01;ret;}");
    }

    /** "of # below 1". */
    private static void numberSigns() {
        for (String thing : new String[] {"ahead m call n # N {}", "behind m call n # N {}", "turn m call n # N to k;", "const m 1 # N to 2;"}) {
            for (String number : new String[] {"1", "2", "60", "61", "999999999", "0001"}) {
                Marked.patch(0, thing.replace("N", number));
            }
            for (String number : new String[] {"0", "-0", "-1", "-999999999", "000"}) {
                Marked.patch(Marked.MUCH, thing.replace("N", "^" + number));
            }
        }
        // The number that is changed, and what it becomes, may be any.
        Marked.patch(0, "const m 0 to 0; const m -1 to -1; const m -999999999 # 1 to 999999999;");
    }

    /** "of one token the lowest kind". */
    private static void lowestKind() {
        Marked.game(Marked.NAME, House.many(1, 16, "class A%{}") + "class ^A16{}");
        Marked.mod(Marked.NAME, "mod M{" + House.many(1, 16, "class A%{}") + "class ^A1{}}");
        Marked.game(Marked.NAME, "class A{" + House.many(1, 12, "field f%;") + "field ^f12;}");
        Marked.patch(Marked.NAME, House.many(1, 12, "field f%;") + "field ^f1;");
        Marked.game(Marked.NAME, "class A{" + House.many(1, 12, "method m%(){L:jump L;}") + "method ^m12(){}}");
        Marked.patch(Marked.NAME, House.many(1, 12, "method m%(){L:jump L;}") + "method ^m1(){}");
        Marked.game(Marked.NAME, "class A{method m(a,b,c,d,e,f,g,h,^h){}}");
        Marked.patch(Marked.SYNTAX, "head m{}".repeat(12) + "^foo m{}");
        Marked.mod(Marked.SYNTAX, "mod M{" + "patch A{}".repeat(8) + "^patc A{}}");
        Marked.mod(Marked.SYNTAX, "mod M after A after B after C after D after ^1{}");
        Marked.game(Marked.SYNTAX, House.many(1, 16, "class A%{}") + "class ^1{}");
        Marked.game(Marked.SYNTAX, House.many(1, 16, "class A%{}") + "class ^abcdefghijk{}");
    }
}
