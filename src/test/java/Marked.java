/** Texts in which a ^ stands ahead of the fault that is due, or nowhere when none is. */
final class Marked {
    static final int SYNTAX = 1;
    static final int NAME = 2;
    static final int MUCH = 3;
    static final int PILE = 4;

    private Marked() {
    }

    static void game(int kind, String marked) {
        WeaveHouse house = new WeaveHouse();
        House.due("game " + marked, House.game(house, marked.replace("^", "")) == WeaveHouse.NONE, kind != 0);
        told(house, kind, marked);
    }

    static void mod(int kind, String marked) {
        WeaveHouse house = new WeaveHouse();
        House.game(house, "class A{}");
        House.due("mod " + marked, House.load(house, marked.replace("^", "")) == WeaveHouse.NONE, kind != 0);
        told(house, kind, marked);
    }

    private static void told(WeaveHouse house, int kind, String marked) {
        House.due("kind of " + marked, house.fault(0), kind);
        House.due("place of " + marked, house.fault(1), marked.indexOf('^'));
    }

    /** A method with the parameters p and q and this body. */
    static void body(int kind, String marked) {
        game(kind, "class A { field f; method m(p, q) " + marked + " }");
    }

    static void patch(int kind, String marked) {
        mod(kind, "mod M { patch A { " + marked + " } }");
    }
}
