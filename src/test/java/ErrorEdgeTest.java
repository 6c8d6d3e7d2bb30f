/** The ERRORS of Part IV, a sentence of the document a method: the last step that is done, and the one that is not. */
public final class ErrorEdgeTest {
    private static final int NULL = 11;
    private static final int KIND = 12;
    private static final int FIELD = 13;
    private static final int METHOD = 14;
    private static final int ZERO = 15;
    private static final int DEEP = 16;
    private static final int ROOM = 17;
    private static final int ARG = 18;

    private ErrorEdgeTest() {
    }

    public static void main(String[] args) {
        ofNull();
        intForAnObject();
        objectForAnInt();
        kindOfOthers();
        noSuchField();
        noSuchMethod();
        anotherNumberOfParameters();
        newOfNoClass();
        zero();
        sixtyCalls();
        sixtyCallsByTurns();
        sixHundredVariables();
        variablesOfWovenBodies();
        variablesComeBack();
        twoHundredObjects();
        noParameter();
        noParameterInEachBody();
        ofSeveral();
        ofSeveralWhenDeep();
        stepIsNotDone();
        whereItFailed();
        House.finish();
    }

    /** Runs main with this body to its error; it must stand at the order with this number. */
    private static WeaveHouse fails(int due, int at, String body) {
        return failsIn(due, at, House.mainGame(body));
    }

    private static WeaveHouse failsIn(int due, int at, String game, String... mods) {
        WeaveHouse house = House.woven(game, mods);
        house.go(100000);
        House.due("state of " + game, house.state(0), due);
        House.due("order that failed of " + game, house.state(8), at);
        return house;
    }

    private static void ends(String body) {
        WeaveHouse house = House.woven(House.mainGame(body));
        house.go(100000);
        House.due("state of " + body, house.state(0), 2);
    }

    /** "1 NULL: get, put, call of null." */
    private static void ofNull() {
        fails(NULL, 1, "null; get f; ret;");
        fails(NULL, 2, "null; push 1; put f; null; ret;");
        fails(NULL, 1, "null; call main 0; ret;");
        fails(NULL, 3, "null; self; self; call main 2; ret;");
        ends("self; get f; ret;");
        ends("self; null; put f; null; ret;");
        // null may be stored, put, given and asked elsewhere.
        ends("null; store v; load v; dup; same; pop; null; out; null; if L; L: null; ret;");
        // A field's null, too.
        fails(NULL, 5, "self; null; put f; self; get f; get g; ret;");
    }

    /** "2 KIND: an int where an object must be". */
    private static void intForAnObject() {
        fails(KIND, 1, "push 0; get f; ret;");
        fails(KIND, 1, "push 1; get f; ret;");
        fails(KIND, 2, "push 1; self; put f; null; ret;");
        fails(KIND, 2, "push 0; null; put f; null; ret;");
        fails(KIND, 1, "push 1; call main 0; ret;");
        fails(KIND, 2, "push 1; self; call main 1; ret;");
        // A variable or field at first is an int.
        fails(KIND, 1, "load v; get f; ret; store v;");
        fails(KIND, 2, "self; get f; get f; ret;");
    }

    /** "an OBJECT where an int must be (add to less ..)". */
    private static void objectForAnInt() {
        for (String order : new String[] {"add", "sub", "mul", "div", "less"}) {
            for (String object : new String[] {"self", "null", "new A"}) {
                fails(KIND, 2, object + "; push 1; " + order + "; ret;");
                fails(KIND, 2, "push 1; " + object + "; " + order + "; ret;");
                fails(KIND, 2, object + "; " + object + "; " + order + "; ret;");
            }
            ends("push 1; push 1; " + order + "; ret;");
        }
    }

    /** All other orders take any. */
    private static void kindOfOthers() {
        for (String value : new String[] {"push 0", "push 5", "null", "self"}) {
            ends(value + "; push 1; same; ret;");
            ends(value + "; null; same; ret;");
            ends(value + "; if L; L: null; ret;");
            ends(value + "; out; null; ret;");
            ends(value + "; store v; self; load v; put f; self; get f; ret;");
            ends(value + "; dup; swap; pop; ret;");
        }
    }

    /** "3 FIELD: no such field." */
    private static void noSuchField() {
        fails(FIELD, 1, "self; get x; ret;");
        fails(FIELD, 2, "self; null; put x; null; ret;");
        fails(FIELD, 1, "self; get F; ret;");
        fails(FIELD, 1, "self; get main; ret;");
        String game = "class A { field a; method main() { new C; get W; ret; } } class B { field b; } class C : B { field c; } class D : C { field d; }";
        for (String word : new String[] {"b", "c"}) {
            WeaveHouse house = House.woven(game.replace("W", word));
            house.go(9);
            House.due("field " + word, house.state(0), 2);
        }
        for (String word : new String[] {"a", "d"}) {
            failsIn(FIELD, 1, game.replace("W", word));
        }
        WeaveHouse patched = House.woven(game.replace("W", "x"), "mod M { patch B { field x; } }");
        patched.go(9);
        House.due("a mod's field", patched.state(0), 2);
        failsIn(FIELD, 1, game.replace("W", "x"), "mod M { patch D { field x; } }");
    }

    /** "4 METHOD: no such method". */
    private static void noSuchMethod() {
        fails(METHOD, 1, "self; call x 0; ret;");
        fails(METHOD, 1, "self; call f 0; ret;");
        String game = "class A { method a() { null; ret; } method main() { new C; call W 0; ret; } } class B { method b() { null; ret; } } class C : B { method c() { null; ret; } } "
                + "class D : C { method d() { null; ret; } }";
        for (String word : new String[] {"b", "c"}) {
            WeaveHouse house = House.woven(game.replace("W", word));
            house.go(9);
            House.due("method " + word, house.state(0), 2);
        }
        for (String word : new String[] {"a", "d", "main"}) {
            failsIn(METHOD, 1, game.replace("W", word));
        }
    }

    /** "or it has another number of parameters": one less and one more. */
    private static void anotherNumberOfParameters() {
        String[] lists = {"", "a", "a,b", "a,b,c", "a,b,c,d", "a,b,c,d,e", "a,b,c,d,e,f", "a,b,c,d,e,f,g", "a,b,c,d,e,f,g,h"};
        for (int params = 0; params <= 8; params++) {
            for (int n = Math.max(0, params - 1); n <= Math.min(7, params + 1); n++) {
                String game = "class A { method main() { " + "self; ".repeat(n + 1) + "call m " + n + "; ret; } method m(" + lists[params] + ") { null; ret; } }";
                WeaveHouse house = House.woven(game);
                house.go(100);
                House.due(n + " values for " + params + " parameters", house.state(0), n == params ? 2 : METHOD);
                // A TURN gives one more.
                WeaveHouse turned = House.woven(game.replace("call m", "call x"), "mod M { patch A { turn main call x to m; } }");
                turned.go(100);
                House.due(n + " values of a TURN for " + params + " parameters", turned.state(0), n + 1 == params ? 2 : METHOD);
            }
        }
        // The nearest above counts, though one further above would fit.
        failsIn(METHOD, 1, "class A { method main() { new B; call m 0; ret; } method m() { null; ret; } } class B : A { method m(p) { null; ret; } }");
    }

    /** "new of a class that is not there". */
    private static void newOfNoClass() {
        fails(METHOD, 0, "new X; ret;");
        fails(METHOD, 0, "new main; ret;");
        fails(METHOD, 0, "new a; ret;");
        ends("new A; ret;");
        String game = House.mainGame("new B; ret;");
        failsIn(METHOD, 0, game);
        WeaveHouse house = House.woven(game, "mod M { class B { } }");
        house.go(9);
        House.due("a mod's class", house.object(2, 0), 1);
        failsIn(METHOD, 0, game, "mod M { class B { } patch X { } }");
    }

    /** "5 ZERO", of div by 0 alone, behind KIND. */
    private static void zero() {
        fails(ZERO, 2, "push 1; push 0; div; ret;");
        fails(ZERO, 2, "push 0; push 0; div; ret;");
        ends("push 0; push 1; div; ret;");
        ends("push 0; push -1; div; ret;");
        ends("push 0; push 0; mul; ret;");
        fails(KIND, 2, "self; push 0; div; ret;");
        fails(KIND, 2, "null; push 0; div; ret;");
        fails(KIND, 2, "push 0; null; div; ret;");
    }

    /** "6 DEEP: a 61st call within others (main is one)". */
    private static void sixtyCalls() {
        // m calls itself until p is the last one's number, main being the first.
        String game = "class A { method main() { self; push 2; call m 1; ret; } method m(p) { load p; push LAST; less; if L; load p; ret; L: self; load p; push 1; add; call m 1; ret; } }";
        for (int last = 58; last <= 60; last++) {
            WeaveHouse house = House.woven(game.replace("LAST", "" + last));
            house.go(100000);
            House.due(last + " calls", house.state(0), 2);
            House.due("what the last one gave", house.state(10), last);
        }
        WeaveHouse house = House.woven(game.replace("LAST", "61"));
        house.go(100000);
        House.due("a 61st call", house.state(0), DEEP);
        House.due("60 are under way", house.state(2), 60);
        House.due("at the call", house.order(0, 1, house.state(8), 0), 18);
        House.due("what it would take", house.state(3), 2);
        House.due("the pile", house.top(0, 0), 61);
    }

    private static void sixtyCallsByTurns() {
        String game = "class A { method main() { push 2; call x 0; ret; } method m(p) { load p; push LAST; less; if L; load p; ret; L: load p; push 1; add; call x 0; ret; } }";
        String mod = "mod M { patch A { turn main call x to m; turn m call x to m; } }";
        WeaveHouse sixty = House.woven(game.replace("LAST", "60"), mod);
        sixty.go(100000);
        House.due("60 calls", sixty.state(0), 2);
        House.due("the last one", sixty.state(10), 60);
        WeaveHouse more = House.woven(game.replace("LAST", "61"), mod);
        more.go(100000);
        House.due("a 61st", more.state(0), DEEP);
        House.due("60 under way", more.state(2), 60);
        House.due("what it would take", more.top(0, 0), 61);
        House.due("owner of the TURN", more.state(9), 0);
    }

    /** "or parameters and variables of all of these .. would be more than 600". */
    private static void sixHundredVariables() {
        // 59 calls of 8 variables are far from 600, so heads make m wider.
        String m = "method m(p) { " + House.many(1, 7, "null; store v%; ") + "self; null; call m 1; ret; }";
        String head = "mod M { patch A { head m { " + House.many(1, 8, "null; store h%; ") + "} head m { " + House.many(1, 4, "null; store h%; ") + "} } }";
        for (int own = 0; own <= 8; own++) {
            WeaveHouse house = House.woven("class A { method main() { " + House.many(1, own, "null; store w%; ") + "self; null; call m 1; ret; } " + m + " }", head);
            House.due("variables of main", house.state(11), own);
            House.due("variables of m", house.method(0, 1, 4), 20);
            house.go(100000);
            House.due("deep", house.state(0), DEEP);
            // 30 times 20 is 600: it fits if main has none.
            int calls = own == 0 ? 30 : 29;
            House.due("calls of m with " + own, house.state(2), 1 + calls);
            House.due("variables with " + own, house.state(11), own + 20 * calls);
        }
    }

    /** "with those of woven bodies". */
    private static void variablesOfWovenBodies() {
        // A method of 60: ten of them fill all; main has none.
        String game = "class A { method main() { self; push 1; call m 1; ret; } method m(p) { load p; push LAST; less; if L; load p; ret; L: self; load p; push 1; add; call m 1; ret; } }";
        String eight = "{ " + House.many(1, 8, "null; store v%; ") + "}";
        String mod = "mod M { patch A { " + ("head m " + eight).repeat(6) + " ahead m call m " + eight + " behind m call m { " + House.many(1, 3, "null; store v%; ") + "} } }";
        WeaveHouse ten = House.woven(game.replace("LAST", "10"), mod);
        House.due("60 of one method", ten.method(0, 1, 4), 60);
        ten.go(100000);
        House.due("600 of all", ten.state(0), 2);
        WeaveHouse eleven = House.woven(game.replace("LAST", "11"), mod);
        eleven.go(100000);
        House.due("660 of all", eleven.state(0), DEEP);
        House.due("eleven calls", eleven.state(2), 11);
        House.due("600 variables", eleven.state(11), 600);
        // One variable of main's makes the tenth too much.
        WeaveHouse less = House.woven(game.replace("LAST", "10"), mod, "mod N { patch A { head main { null; store v; } } }");
        less.go(100000);
        House.due("601 of all", less.state(0), DEEP);
        House.due("ten calls", less.state(2), 10);
        House.due("541 variables", less.state(11), 541);
    }

    /** Calls that came back count no more. */
    private static void variablesComeBack() {
        WeaveHouse house = House.woven("class A { method main() { L: self; push 1; call m 1; pop; load n; push 1; add; store n; load n; push 200; less; if L; load n; ret; } "
                + "method m(p) { " + House.many(1, 7, "null; store v%; ") + "null; ret; } }");
        house.go(100000);
        House.due("200 calls one after the other", house.state(0), 2);
        House.due("counted", house.state(10), 200);
    }

    /** "7 ROOM: a 201st OBJECT." */
    private static void twoHundredObjects() {
        String loop = "L: new A; pop; load n; push 1; add; store n; load n; push MOST; less; if L; load n; ret;";
        for (int more = 198; more <= 200; more++) {
            WeaveHouse house = House.woven(House.mainGame(loop.replace("MOST", "" + more)));
            house.go(100000);
            House.due("objects with " + more + " more", house.state(4), Math.min(200, 1 + more));
            House.due("state with " + more + " more", house.state(0), more <= 199 ? 2 : ROOM);
        }
        WeaveHouse full = fails(ROOM, 0, loop.replace("MOST", "1000"));
        House.due("nothing was pushed", full.state(3), 0);
        House.due("object 200", full.object(200, 0), 0);
        House.due("no object 201", full.object(201, 1), 0);
        House.due("199 rounds", full.state(1), 199 * 10);
        full.start();
        House.due("room again", full.go(10), 10);
        WeaveHouse numbers = House.woven("class A { method main() { L: new B; out; jump L; } } class B { field f; }");
        numbers.go(100000);
        House.due("the second object's number", numbers.output(0), 2);
        House.due("the last one's number", numbers.output(198), 200);
        House.due("its class", numbers.object(200, 0), 1);
        House.due("no further output", numbers.state(5), 199);
    }

    /** "8 ARG: a number that the method has no parameter of." */
    private static void noParameter() {
        String[] lists = {"", "a", "a,b", "a,b,c", "a,b,c,d", "a,b,c,d,e", "a,b,c,d,e,f", "a,b,c,d,e,f,g"};
        for (int params = 0; params <= 7; params++) {
            String game = "class A { method main() { self; " + House.many(1, params, "push %; ") + "call m " + params + "; ret; } method m(" + lists[params] + ") { null; ret; } }";
            for (int number = 0; number <= 7; number++) {
                WeaveHouse arg = House.woven(game, "mod M { patch A { over m { arg " + number + "; ret; } } }");
                arg.go(100);
                House.due("arg " + number + " of " + params, arg.state(0), number < params ? 2 : ARG);
                House.due("what it gives", arg.state(10), number < params ? number + 1 : 0);
                WeaveHouse give = House.woven(game, "mod M { patch A { over m { push 50; give " + number + "; null; ret; } } }");
                give.go(100);
                House.due("give " + number + " of " + params, give.state(0), number < params ? 2 : ARG);
            }
        }
        // Variables are no parameters.
        failsIn(ARG, 2, House.mainGame("null; ret;"), "mod M { patch A { head main { push 1; store v; arg 0; pop; } } }");
    }

    private static void noParameterInEachBody() {
        String game = "class A { method main() { self; push 5; call m 1; ret; } method m(p) { load p; push 6; less; if L; self; call k 0; ret; L: self; call k 0; ret; } method k() { null; ret; } }";
        for (String kind : new String[] {"over m", "head m", "tail m", "ahead m call k", "behind m call k"}) {
            String end = kind.startsWith("over") ? "null; ret; }" : "}";
            WeaveHouse first = House.woven(game, "mod M { patch A { " + kind + " { arg 0; out; push 7; give 0; arg 0; out; " + end + " } }");
            first.go(100);
            House.due("both are there in " + kind, first.state(0), 2);
            House.due("arg in " + kind, first.output(0), 5);
            House.due("arg behind give in " + kind, first.output(1), 7);
            WeaveHouse arg = House.woven(game, "mod M { patch A { " + kind + " { arg 1; pop; " + end + " } }");
            arg.go(100);
            House.due("arg 1 in " + kind, arg.state(0), ARG);
            WeaveHouse give = House.woven(game, "mod M { patch A { " + kind + " { push 1; give 1; " + end + " } }");
            give.go(100);
            House.due("give 1 in " + kind, give.state(0), ARG);
            House.due("the value stays on top in " + kind, give.top(0, 0), 1);
        }
        // What the body loads is what was given.
        WeaveHouse given = House.woven("class A { method main() { self; push 5; push 6; call m 2; ret; } method m(p, q) { load p; push 10; mul; load q; add; ret; } }",
                "mod M { patch A { head m { push 1; give 1; arg 1; give 0; } } }");
        given.go(100);
        House.due("given", given.state(10), 11);
    }

    /** "Of several: 1 or 2 of the object, 3, 4". */
    private static void ofSeveral() {
        fails(NULL, 1, "null; get x; ret;");
        fails(KIND, 1, "push 1; get x; ret;");
        fails(NULL, 2, "null; null; put x; null; ret;");
        fails(KIND, 2, "push 0; null; put x; null; ret;");
        fails(NULL, 1, "null; call x 0; ret;");
        fails(KIND, 1, "push 0; call x 0; ret;");
        fails(NULL, 2, "null; push 1; call main 1; ret;");
        fails(KIND, 2, "push 2; push 1; call main 1; ret;");
    }

    /** ".. 6": with 60 calls under way. */
    private static void ofSeveralWhenDeep() {
        String game = "class A { method main() { self; push 2; call m 1; ret; } method m(p) { load p; push 60; less; if L; LAST ret; L: self; load p; push 1; add; call m 1; ret; } }";
        String[] last = {"null; call m 0;", "push 1; call m 0;", "self; call x 0;", "self; call m 0;", "self; null; call m 1;", "null; get x;", "self; get x;", "new X;"};
        int[] due = {NULL, KIND, METHOD, METHOD, DEEP, NULL, FIELD, METHOD};
        for (int i = 0; i < last.length; i++) {
            WeaveHouse house = House.woven(game.replace("LAST", last[i]));
            house.go(100000);
            House.due("60 calls at " + last[i], house.state(2), 60);
            House.due("error of " + last[i], house.state(0), due[i]);
        }
    }

    /** "(the STEP is not done, the machine is over)". */
    private static void stepIsNotDone() {
        String[] bodies = {"push 8; null; get f; ret;", "push 8; null; push 3; put f; ret;", "push 8; self; push 3; add; ret;", "push 8; self; get x; ret;",
            "push 8; self; push 3; put x; ret;", "push 8; self; push 3; call x 1; ret;", "push 8; new X; ret;", "push 8; push 0; div; ret;"};
        int[] errors = {NULL, NULL, KIND, FIELD, FIELD, METHOD, METHOD, ZERO};
        for (int i = 0; i < bodies.length; i++) {
            int orders = bodies[i].split(";").length - 2;
            WeaveHouse house = House.woven(House.mainGame(bodies[i]));
            house.go(orders);
            House.due("it goes on: " + bodies[i], house.state(0), 1);
            String before = seen(house);
            House.due("no step: " + bodies[i], house.go(5), 0);
            House.due("error: " + bodies[i], house.state(0), errors[i]);
            House.due("all is as it was: " + before + " and " + seen(house), before.equals(seen(house)), true);
            House.due("over: " + bodies[i], house.go(5), 0);
        }
    }

    /** All of the machine but its state. */
    private static String seen(WeaveHouse house) {
        StringBuilder all = new StringBuilder();
        for (int what = 1; what <= 11; what++) {
            all.append(house.state(what)).append(' ');
        }
        for (int k = 0; k < 4; k++) {
            all.append(house.top(k, 0)).append(house.top(k, 1) == 1 ? "o " : "i ");
            all.append(house.object(1, k)).append(' ');
        }
        return all.toString();
    }

    /** "8 the ORDER that is next (or that failed), 9 its owner", and the calls under way as they were. */
    private static void whereItFailed() {
        WeaveHouse house = House.woven("class A { method main() { push 1; store v; new B; push 4; call m 1; ret; } } class B { method k() { null; ret; } method m(p) { null; ret; } }",
                "mod M { }", "mod N { patch B { tail m { push 3; store x; value; get f; pop; } } }");
        house.go(100);
        int[] due = {NULL, 5 + 4, 2, 2, 2, 0, 1, 1, 4, 1, 0, 1 + 2};
        for (int what = 0; what < due.length; what++) {
            House.due("state " + what, house.state(what), due[what]);
        }
        House.due("the value that was to be returned", house.top(1, 1), 1);
        House.due("its copy", house.top(0, 1), 1);
        House.due("the tail's steps", house.told(1, 2), 3);
    }
}
