/** The boundaries of promises 1 to 3, a sentence of the document a method. */
public final class TapeEdgeTest {
    private static final int BLANKS = 0x20202020;

    private TapeEdgeTest() {
    }

    public static void main(String[] args) {
        noGameNoMods();
        newBesideAnother();
        twentyBytesComeBehind();
        ofEachNumberTheHighestFirst();
        everyByteCounts();
        moreThan4000();
        aFullTapeIsRead();
        onlyTheFirstStay();
        whatStaysIsReadWithWhatComes();
        notSoMany();
        below0();
        theLastCall();
        House.finish();
    }

    /** "No game, no mods; the machine has not started." */
    private static void noGameNoMods() {
        WeaveHouse house = new WeaveHouse();
        House.due("no game is woven", house.weave(), -1);
        House.due("no woven game", house.count(2), 0);
        House.due("no mods", house.count(3), 0);
        House.due("an empty tape", house.count(4), 0);
        House.due("not started", house.state(0), 0);
        House.due("nothing goes", house.go(0), -1);
        House.due("nothing starts", house.start(), false);
        House.due("no mod is read without a game", House.load(house, "mod M { }"), -2);
        House.due("nothing was read", house.fault(0), -1);
        House.due("no first mod", house.turn(0, false), false);
    }

    /** All memory is the object's own: a new one has nothing of another. */
    private static void newBesideAnother() {
        WeaveHouse one = House.woven(House.mainGame("push 3; out; new A; push 4; ret;"), "mod M { patch A { head main { } } }");
        one.go(3);
        House.text(one, "mod N { }");
        WeaveHouse other = new WeaveHouse();
        House.due("no bytes", other.count(4), 0);
        House.due("no mods", other.count(3), 0);
        House.due("no woven game", other.count(2), 0);
        House.due("no state", other.state(0), 0);
        House.due("no output", other.output(0), 0);
        House.due("no object", other.object(1, 0), 0);
        House.due("nothing read", other.fault(0), -1);
        House.game(other, "class B { } class C { }");
        other.weave();
        House.due("the other's classes", other.count(0), 2);
        House.due("the first one's stay", one.count(0), 1);
        House.due("its machine goes on", one.go(9), 2);
        House.due("to its end", one.state(10), 4);
        House.due("its tape is its own", one.load(), 1);
    }

    /** "Twenty bytes come behind the TAPE ..: how many it has." */
    private static void twentyBytesComeBehind() {
        WeaveHouse house = new WeaveHouse();
        House.due("the first twenty", house.feed(0, 0, 0, 0, 0), 20);
        House.due("twenty more", house.feed(-1, -1, -1, -1, -1), 40);
        House.due("counted", house.count(4), 40);
        house.end(1);
        House.due("behind one", house.feed(0, 0, 0, 0, 0), 21);
        house.end(0);
        House.due("behind none", house.feed(0, 0, 0, 0, 0), 20);
        house.game();
        House.due("behind what was used up", house.feed(0, 0, 0, 0, 0), 20);
    }

    /** "of each number the highest first": a byte that is no token tells its place. */
    private static void ofEachNumberTheHighestFirst() {
        for (int place = 0; place < 20; place++) {
            int[] numbers = {BLANKS, BLANKS, BLANKS, BLANKS, BLANKS};
            int shift = 24 - 8 * (place % 4);
            numbers[place / 4] = BLANKS & ~(255 << shift) | '@' << shift;
            WeaveHouse house = new WeaveHouse();
            house.feed(BLANKS, BLANKS, BLANKS, BLANKS, BLANKS);
            house.feed(numbers[0], numbers[1], numbers[2], numbers[3], numbers[4]);
            house.game();
            House.due("the place of byte " + place, house.fault(1), 20 + place);
        }
    }

    /** Bytes above 127 and numbers below 0 come whole. */
    private static void everyByteCounts() {
        for (int number : new int[] {-1, Integer.MIN_VALUE | BLANKS, 0xFF202020, 0x20FF2020, 0x2020FF20, 0x202020FF}) {
            WeaveHouse house = new WeaveHouse();
            House.due("feed of " + number, house.feed(BLANKS, BLANKS, BLANKS, BLANKS, number), 20);
            house.game();
            int due = 16;
            while ((number >> 24 - 8 * (due - 16) & 255) == ' ') {
                due++;
            }
            House.due("the first byte that is no blank of " + number, house.fault(1), due);
        }
    }

    /** "NONE when there would be more than 4000." */
    private static void moreThan4000() {
        WeaveHouse house = new WeaveHouse();
        String text = "class A { method main() { push 7; ret; } }";
        House.text(house, text + " ".repeat(3980 - text.length()));
        House.due("a feed up to 4000", house.feed(BLANKS, BLANKS, BLANKS, BLANKS, BLANKS), 4000);
        House.due("a feed beyond", house.feed(-1, -1, -1, -1, -1), -1);
        House.due("4000 stay", house.count(4), 4000);
        house.end(3981);
        House.due("a feed up to 4001", house.feed(-1, -1, -1, -1, -1), -1);
        House.due("3981 stay", house.count(4), 3981);
        House.due("the bytes are as they were", house.game(), 1);
        House.due("no fault in them", house.fault(0), 0);
        house.weave();
        House.due("nothing of what was refused", house.order(0, 0, 0, 2), 7);
        WeaveHouse below = new WeaveHouse();
        House.text(below, " ".repeat(3979));
        House.due("a feed up to 3999", below.feed(-1, -1, -1, -1, -1), 3999);
        House.due("a feed behind that", below.feed(-1, -1, -1, -1, -1), -1);
    }

    /** "The TAPE has bytes, at most 4000": the last of them is read. */
    private static void aFullTapeIsRead() {
        WeaveHouse house = new WeaveHouse();
        House.due("the last byte ends the game", House.game(house, "class A{" + " ".repeat(3991) + "}"), 1);
        House.due("all is used up", house.count(4), 0);
        House.due("a full mod", House.load(house, "mod M{" + " ".repeat(3993) + "}"), 0);
        WeaveHouse none = new WeaveHouse();
        House.game(none, "class A{" + " ".repeat(3991) + "@");
        House.due("the last byte is no token", none.fault(1), 3999);
        WeaveHouse open = new WeaveHouse();
        House.game(open, "class A{" + " ".repeat(3992));
        House.due("nothing behind the last byte", open.fault(1), 4000);
        House.due("it is the syntax", open.fault(0), Marked.SYNTAX);
    }

    /** "Of the TAPE only the first n bytes stay: true". */
    private static void onlyTheFirstStay() {
        WeaveHouse house = new WeaveHouse();
        House.due("none of none", house.end(0), true);
        House.text(house, "class A{}class B{}");
        House.due("all", house.end(18), true);
        House.due("all are there", house.count(4), 18);
        House.due("one less", house.end(17), true);
        House.due("one is gone", house.count(4), 17);
        House.due("the first class", house.end(9), true);
        House.due("it is read alone", house.game(), 1);
        house.feed(0, 0, 0, 0, 0);
        House.due("none", house.end(0), true);
        House.due("an empty tape", house.count(4), 0);
        House.due("is no game", house.game(), -1);
        House.due("its end is its start", house.fault(1), 0);
    }

    private static void whatStaysIsReadWithWhatComes() {
        WeaveHouse house = new WeaveHouse();
        House.text(house, "claXXXXX");
        house.end(3);
        // "ss A{}" and blanks.
        house.feed(0x73732041, 0x7b7d2020, BLANKS, BLANKS, BLANKS);
        House.due("23 bytes", house.count(4), 23);
        House.due("one word of both", house.game(), 1);
    }

    /** "false, and all stays, when it has not so many". */
    private static void notSoMany() {
        WeaveHouse house = new WeaveHouse();
        House.due("one of none", house.end(1), false);
        House.due("none stay", house.count(4), 0);
        House.text(house, "class A{}");
        House.due("ten of nine", house.end(10), false);
        House.due("4000 of nine", house.end(4000), false);
        House.due("far more", house.end(Integer.MAX_VALUE), false);
        House.due("nine stay", house.count(4), 9);
        House.due("as they were", house.game(), 1);
        House.due("one of what was used up", house.end(1), false);
    }

    /** "or n is below 0". */
    private static void below0() {
        WeaveHouse house = new WeaveHouse();
        House.due("-1 of none", house.end(-1), false);
        House.text(house, "class A{}");
        House.due("-1", house.end(-1), false);
        House.due("far below", house.end(Integer.MIN_VALUE), false);
        House.due("all stay", house.count(4), 9);
        House.due("as they were", house.game(), 1);
    }

    /** "An object is used for at most 512 calls": the last of them is answered as the first. */
    private static void theLastCall() {
        WeaveHouse house = new WeaveHouse();
        // 3 feeds, an end, a game, a weave, a start: 7 calls.
        House.text(house, "class A { method main() { L: push 1; out; jump L; } }");
        house.game();
        house.weave();
        house.start();
        for (int call = 8; call <= 511; call++) {
            House.due("call " + call, house.go(1), 1);
        }
        House.due("call 512", house.state(1), 504);
    }
}
