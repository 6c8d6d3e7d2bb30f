/** Promises 1 to 3: a new object, feed, end. */
public final class TapeTest {
    private TapeTest() {
    }

    public static void main(String[] args) {
        newObject();
        feed();
        end();
        House.finish();
    }

    private static void newObject() {
        WeaveHouse house = new WeaveHouse();
        House.due("NONE", WeaveHouse.NONE, -1);
        for (int what = 0; what <= 4; what++) {
            House.due("count " + what + " of a new house", house.count(what), 0);
        }
        for (int what = 0; what <= 11; what++) {
            House.due("state " + what + " of a new house", house.state(what), 0);
        }
        House.due("no fault yet", house.fault(0), -1);
        House.due("no fault's place yet", house.fault(1), -1);
        House.due("weave without a game", house.weave(), -1);
        House.due("start without a game", house.start(), false);
        House.due("go without a start", house.go(1), -1);
        House.due("turn without a mod", house.turn(0, true), false);
        House.due("told without a mod", house.told(0, 0), -1);
        House.due("klass without a game", house.klass(0, 0), -1);
        House.due("method without a game", house.method(0, 0, 0), -1);
        House.due("order without a game", house.order(0, 0, 0, 0), -1);
        House.due("output of nothing", house.output(0), 0);
        House.due("object of nothing", house.object(1, 0), 0);
        House.due("top of nothing", house.top(0, 0), 0);
        House.due("load without a game", house.load(), -2);
    }

    private static void feed() {
        WeaveHouse house = new WeaveHouse();
        for (int i = 1; i <= 200; i++) {
            House.due("feed " + i, house.feed(0, 0, 0, 0, 0), 20 * i);
        }
        House.due("feed of a full tape", house.feed(0, 0, 0, 0, 0), -1);
        House.due("a full tape", house.count(4), 4000);
        House.due("one byte less", house.end(3981), true);
        House.due("feed of a tape too full", house.feed(1, 2, 3, 4, 5), -1);
        House.due("a tape too full stays", house.count(4), 3981);
        House.due("end 3980", house.end(3980), true);
        House.due("feed that just fits", house.feed(0, 0, 0, 0, 0), 4000);

        WeaveHouse order = new WeaveHouse();
        // "class A{method m(){p" and "ush -7;ret;}}": the bytes of each number, the highest first.
        order.feed(0x636c6173, 0x7320417b, 0x6d657468, 0x6f64206d, 0x28297b70);
        order.feed(0x75736820, 0x2d373b72, 0x65743b7d, 0x7d202020, 0x20202020);
        House.due("the bytes come in their order", order.game(), 1);
    }

    private static void end() {
        WeaveHouse house = new WeaveHouse();
        house.feed(0, 0, 0, 0, 0);
        House.due("end below 0", house.end(-1), false);
        House.due("end beyond", house.end(21), false);
        House.due("all stays", house.count(4), 20);
        House.due("end at all", house.end(20), true);
        House.due("still all", house.count(4), 20);
        House.due("end 7", house.end(7), true);
        House.due("seven", house.count(4), 7);
        House.due("end 8", house.end(8), false);
        House.due("end 0", house.end(0), true);
        House.due("none", house.count(4), 0);
    }
}
