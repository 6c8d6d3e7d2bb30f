import java.util.Random;

/** "No call may ever throw or fail to end, for any arguments in any state": runs of calls that are made up, always the same ones. */
public final class NeverThrowsTest {
    private static final int HOUSES = 4000;
    private static final String[] GAMES = {
        "class A { field f; method main() { L: self; push 3; call m 1; out; self; get f; if L; new B; store v; load v; ret; } method m(p) { load p; push 1; sub; store p; "
            + "self; load p; put f; load p; ret; } } class B : A { field g; method m(p) { push 2; load p; div; ret; } }",
        "class A { method main() { L: new A; call k 0; pop; jump L; } method k() { self; call k 0; ret; } }",
        "class A { field f; field g; method main() { self; self; put f; self; get f; get g; null; same; pop; push 5; push 6; swap; less; ret; } } class B { } class C : B { field h; }"};
    private static final String[] MODS = {
        "mod M after N { class D : B { field d; method m(p) { null; ret; } } patch A { field x; head main { push 1; out; push 0; if L; null; store a; L: null; pop; } tail m { value; set; } } }",
        "mod N breaks O { patch A { method t(o, p) { load o; ret; } turn main call m to t; const main 3 to 4; ahead main call m # 1 { arg 0; pop; } behind main call m { push 9; store z; } } }",
        "mod O needs N { patch A { over main { push 1; ret; } head main { push 4; cancel; } } patch B { field q; } }",
        "mod P { patch A { tail main { value; out; self; set; } over k { push 3; ret; } } }"};
    private static final String[] TOKENS = {"class", "field", "method", "mod", "patch", "over", "head", "tail", "ahead", "behind", "turn", "const", "call", "to", "after", "needs",
        "{", "}", "(", ")", ";", ":", ",", "#", "A", "B", "m", "main", "L", "push", "null", "ret", "load", "store", "jump", "if", "get", "put", "new", "self", "arg", "give",
        "cancel", "value", "set", "0", "1", "7", "8", "-1", "999999999", "1234567890", "abcdefghijk", "@", "-", "\n"};
    private static final int[] NUMBERS = {Integer.MIN_VALUE, -2, -1, 0, 1, 2, 3, 4, 5, 7, 8, 11, 12, 16, 24, 59, 60, 199, 200, 201, 399, 400, 4000, 100000, 100001, Integer.MAX_VALUE};

    private NeverThrowsTest() {
    }

    public static void main(String[] args) {
        Random random = new Random(20261116);
        int calls = 0;
        for (int i = 0; i < HOUSES; i++) {
            calls += oneHouse(random, i);
        }
        House.due("many calls were made", calls > HOUSES * 50, true);
        House.finish();
    }

    private static int oneHouse(Random random, int number) {
        WeaveHouse house = new WeaveHouse();
        int calls = 0;
        try {
            if (random.nextInt(4) > 0) {
                House.game(house, GAMES[random.nextInt(GAMES.length)]);
                calls += 20;
            }
            int rounds = 5 + random.nextInt(30);
            for (int i = 0; i < rounds && calls < 450; i++) {
                calls += someCalls(house, random);
            }
        } catch (RuntimeException thrown) {
            House.due("house " + number + " threw " + thrown, true, false);
        }
        return calls;
    }

    private static int someCalls(WeaveHouse house, Random random) {
        switch (random.nextInt(8)) {
            case 0:
                House.text(house, text(random, GAMES));
                house.game();
                return 30;
            case 1:
            case 2:
                House.text(house, text(random, MODS));
                house.load();
                return 15;
            case 3:
                house.weave();
                house.start();
                return 2;
            case 4:
                house.go(random.nextInt(2000));
                return 1;
            case 5:
                house.turn(random.nextInt(10) - 1, random.nextBoolean());
                return 1;
            default:
                ask(house, random);
                return 12;
        }
    }

    /** A text as it is, or with a token put in, left out or in another's place, or cut. */
    private static String text(Random random, String[] texts) {
        String text = texts[random.nextInt(texts.length)];
        if (random.nextInt(3) > 0) {
            return text;
        }
        String[] tokens = text.replace(";", " ; ").replace("(", " ( ").replace(")", " ) ").split(" +");
        StringBuilder made = new StringBuilder();
        int changes = 1 + random.nextInt(3);
        for (String token : tokens) {
            int what = changes > 0 && random.nextInt(tokens.length) < 2 ? random.nextInt(4) : 4;
            changes -= what < 4 ? 1 : 0;
            String other = TOKENS[random.nextInt(TOKENS.length)];
            made.append(what == 0 ? "" : what == 1 ? other : what == 2 ? token + " " + other : token).append(' ');
            if (what == 3 && random.nextInt(4) == 0) {
                break;
            }
        }
        return made.toString();
    }

    private static int number(Random random) {
        return NUMBERS[random.nextInt(NUMBERS.length)];
    }

    private static void ask(WeaveHouse house, Random random) {
        house.end(number(random));
        house.feed(number(random), number(random), random.nextInt(), number(random), number(random));
        house.fault(number(random));
        house.told(number(random), number(random));
        house.count(number(random));
        house.klass(number(random), number(random));
        house.method(number(random), number(random), number(random));
        house.order(number(random), number(random), number(random), number(random));
        house.go(number(random));
        house.state(number(random));
        house.output(number(random));
        house.object(number(random), number(random));
        house.top(number(random), number(random));
        house.end(0);
    }
}
