/** "A call that is refused changes nothing": of two houses made alike, the one that refused a call goes on as the other does. */
public final class RefusedTest {
    private static final int NEW = 0;
    private static final int GAME = 1;
    private static final int MODS = 2;
    private static final int WOVEN = 3;
    private static final int STARTED = 4;
    private static final int MIDST = 5;
    private static final int OVER = 6;
    private static final int FAILED = 7;
    private static final int STAGES = 8;
    private static final String TEXT = "class A { field f; method main() { push 5; out; self; push 3; put f; new B; push 1; END ret; } method k() { null; ret; } } class B : A { field g; }";
    private static final String[] GAME_FAULTS = {"class A { } ;", "class A { } class A { }", "class A { method m() { call m 8; } }", "class A { method m() { } }"};
    private static final String[] MOD_FAULTS = {"mod P { } ;", "mod P { class D { field d; field d; } }", "mod P after A after B after C after D after E { }",
        "mod P { class D { } patch A { head main { push 1; out; } tail main { pop; } } }"};
    private static final int[] FAR = {Integer.MIN_VALUE, -1, 9, 5000, 100001, Integer.MAX_VALUE};

    /** A call, as a number. */
    private interface Call {
        long on(WeaveHouse house);
    }

    private RefusedTest() {
    }

    public static void main(String[] args) {
        feed();
        end();
        gameWithFault();
        loadWithFault();
        loadWithoutAGame();
        ninthLoad();
        turn();
        weave();
        start();
        go();
        goNotStarted();
        questions();
        House.finish();
    }

    /** A house that has come so far, with a mod's text on its tape. */
    private static WeaveHouse at(int stage) {
        WeaveHouse house = new WeaveHouse();
        if (stage >= GAME) {
            House.game(house, TEXT.replace("END", stage == FAILED ? "push 0; div;" : "pop; push 7;"));
        }
        if (stage >= MODS) {
            House.load(house, "mod M { patch A { head main { push 4; out; } } }");
            House.load(house, "mod N { patch X { } }");
            House.load(house, "mod O { class C { } }");
            house.turn(2, false);
        }
        if (stage >= WOVEN) {
            house.weave();
        }
        if (stage >= STARTED) {
            house.start();
        }
        if (stage >= MIDST) {
            house.go(stage == MIDST ? 9 : 1000);
        }
        House.text(house, "mod T { class U { } }");
        return house;
    }

    /** The call is refused with this answer at this stage, and nothing has changed. */
    private static void refused(String what, int stage, long due, Call call) {
        WeaveHouse asked = at(stage);
        WeaveHouse other = at(stage);
        String name = what + " at stage " + stage;
        House.due(name, call.on(asked), due);
        same(name, asked, other, true);
    }

    /** A text is refused: the tape is used up and fault() tells of it, all else is as it was. */
    private static void refusedText(String text, int stage, boolean game, int kind) {
        WeaveHouse asked = at(stage);
        WeaveHouse other = at(stage);
        String name = text + " at stage " + stage;
        asked.end(0);
        House.text(asked, text);
        House.due(name, game ? asked.game() : asked.load(), -1);
        House.due("the tape is used up: " + name, asked.count(4), 0);
        House.due("fault of " + name, asked.fault(0), kind);
        other.end(0);
        same(name, asked, other, false);
    }

    private static void same(String name, WeaveHouse asked, WeaveHouse other, boolean faults) {
        alike(name + ", then", asked, other, faults);
        alike(name + ", go", asked.go(2), other.go(2));
        alike(name + ", behind go", asked, other, faults);
        // What is on the tape is read last, so that its bytes are looked at, too.
        int read = other.load();
        alike(name + ", load", asked.load(), read);
        if (faults || read != -2) {
            alike(name + ", fault", asked.fault(0), other.fault(0));
            alike(name + ", its place", asked.fault(1), other.fault(1));
        }
        alike(name + ", weave", asked.weave(), other.weave());
        alike(name + ", start", asked.start() ? 1 : 0, other.start() ? 1 : 0);
        alike(name + ", go to the end", asked.go(1000), other.go(1000));
        alike(name + ", at the end", asked, other, faults);
    }

    private static void alike(String name, long got, long due) {
        House.due(name, got, due);
    }

    private static void alike(String name, WeaveHouse asked, WeaveHouse other, boolean faults) {
        String got = seen(asked, faults);
        String due = seen(other, faults);
        House.due(name + ": " + got + " and " + due, got.equals(due), true);
    }

    /** What can be asked of such a house, in some ninety calls. */
    private static String seen(WeaveHouse house, boolean faults) {
        StringBuilder all = new StringBuilder(faults ? house.fault(0) + " " + house.fault(1) : "");
        for (int what = 0; what < 5; what++) {
            all.append(' ').append(house.count(what)).append(' ').append(house.klass(0, what)).append(' ').append(house.klass(2, what));
        }
        for (int what = 0; what < 3; what++) {
            for (int i = 0; i < 4; i++) {
                all.append(' ').append(house.told(i, what)).append(' ').append(house.order(0, 0, 3 * i, what));
                all.append(' ').append(house.object(i, what));
            }
        }
        for (int what = 0; what < 6; what++) {
            all.append(' ').append(house.method(0, 0, what));
        }
        for (int what = 0; what < 12; what++) {
            all.append(' ').append(house.state(what));
        }
        for (int i = 0; i < 3; i++) {
            all.append(' ').append(house.output(i)).append(' ').append(house.top(i, 0)).append(' ').append(house.top(i, 1));
        }
        return all.toString();
    }

    /** Promise 2: "NONE when there would be more than 4000." */
    private static void feed() {
        for (int stage : new int[] {NEW, MIDST}) {
            WeaveHouse asked = at(stage);
            WeaveHouse other = at(stage);
            for (WeaveHouse house : new WeaveHouse[] {asked, other}) {
                // Blanks behind the text that is there.
                while (house.feed(0x20202020, 0x20202020, 0x20202020, 0x20202020, 0x20202020) < 3981) {
                    continue;
                }
            }
            House.due("a full tape's feed", asked.feed(-1, -1, -1, -1, -1), -1);
            alike("behind a refused feed", asked, other, true);
            alike("the bytes", asked.load(), other.load());
            alike("the bytes' fault", asked.fault(0), other.fault(0));
        }
    }

    /** Promise 3: "false, and all stays, when it has not so many, or n is below 0." */
    private static void end() {
        for (int stage = 0; stage < STAGES; stage++) {
            for (int n : new int[] {-1, 22, Integer.MIN_VALUE, Integer.MAX_VALUE}) {
                refused("end " + n, stage, 0, house -> house.end(n) ? 1 : 0);
            }
        }
    }

    /** Promise 4: "NONE when it has a FAULT (all stays)." */
    private static void gameWithFault() {
        for (int stage = 0; stage < STAGES; stage++) {
            for (int kind = 1; kind <= 4; kind++) {
                refusedText(GAME_FAULTS[kind - 1], stage, true, kind);
            }
        }
    }

    /** Promise 5: "NONE when it has a FAULT". */
    private static void loadWithFault() {
        for (int stage = GAME; stage < STAGES; stage++) {
            for (int kind = 1; kind <= 4; kind++) {
                refusedText(MOD_FAULTS[kind - 1], stage, false, kind);
            }
        }
    }

    /** "-2 when there are .. no game (the TAPE is used up, nothing is read)". */
    private static void loadWithoutAGame() {
        for (String text : new String[] {"mod M { }", "mod", "class A { }", ""}) {
            WeaveHouse house = new WeaveHouse();
            House.due("load without a game: " + text, House.load(house, text), -2);
            House.due("the tape is used up", house.count(4), 0);
            House.due("nothing is read", house.fault(0), -1);
            House.due("no mod is kept", house.count(3), 0);
            WeaveHouse other = new WeaveHouse();
            same("load without a game", house, other, true);
        }
        // A game that had a fault is none; its fault stays.
        WeaveHouse house = new WeaveHouse();
        House.game(house, "class A { } class A { }");
        House.due("load behind a fault", House.load(house, "mod"), -2);
        House.due("kind", house.fault(0), 2);
        House.due("place", house.fault(1), 18);
    }

    /** "-2 when there are eight .. (the TAPE is used up, nothing is read)". */
    private static void ninthLoad() {
        for (String text : new String[] {"mod M { }", "mod"}) {
            WeaveHouse asked = at(STARTED);
            WeaveHouse other = at(STARTED);
            for (WeaveHouse house : new WeaveHouse[] {asked, other}) {
                house.end(0);
                for (int i = 3; i < 8; i++) {
                    House.due("mod " + i, House.load(house, "mod M" + i + " { }"), i);
                }
            }
            House.due("a ninth", House.load(asked, text), -2);
            House.due("the tape is used up", asked.count(4), 0);
            same("a ninth mod " + text, asked, other, true);
        }
    }

    /** Promise 7: "false when there is none such." */
    private static void turn() {
        for (int stage = 0; stage < STAGES; stage++) {
            for (int mod : new int[] {-1, stage < MODS ? 0 : 3, 8, Integer.MIN_VALUE, Integer.MAX_VALUE}) {
                refused("turn on " + mod, stage, 0, house -> house.turn(mod, true) ? 1 : 0);
                refused("turn off " + mod, stage, 0, house -> house.turn(mod, false) ? 1 : 0);
            }
        }
    }

    /** Promise 8: "NONE without a game." */
    private static void weave() {
        refused("weave", NEW, -1, WeaveHouse::weave);
    }

    /** Promise 14: "false without a woven game." */
    private static void start() {
        for (int stage = NEW; stage < WOVEN; stage++) {
            refused("start", stage, 0, house -> house.start() ? 1 : 0);
        }
    }

    /** Promise 15: "NONE for another n". */
    private static void go() {
        for (int stage = 0; stage < STAGES; stage++) {
            for (int n : new int[] {-1, 100001, Integer.MIN_VALUE, Integer.MAX_VALUE}) {
                refused("go " + n, stage, -1, house -> house.go(n));
            }
        }
    }

    /** "or when it has not started". */
    private static void goNotStarted() {
        for (int stage = 0; stage < STARTED; stage++) {
            for (int n : new int[] {0, 1, 100000}) {
                refused("go " + n, stage, -1, house -> house.go(n));
            }
        }
    }

    /** Questions change nothing, whatever they ask. */
    private static void questions() {
        for (int stage = 0; stage < STAGES; stage++) {
            refused("questions", stage, 0, RefusedTest::ask);
        }
    }

    private static long ask(WeaveHouse house) {
        for (int far : FAR) {
            house.fault(far);
            house.count(far);
            house.told(0, far);
            house.told(far, 0);
            house.klass(far, 0);
            house.klass(0, far);
            house.method(0, far, 0);
            house.order(0, 0, far, 0);
            house.state(far);
            house.output(far);
            house.object(far, 1);
            house.object(1, far);
            house.top(far, 0);
            house.top(0, far);
        }
        return 0;
    }
}
