/** THE ROW and the whys 1 to 4 of Part III, and promises 7 to 9, a sentence of the document a method. */
public final class RowEdgeTest {
    private static final String GAME = "class A { method main() { push 1; out; null; ret; } }";

    private RowEdgeTest() {
    }

    public static void main(String[] args) {
        eightAreKept();
        onAtFirst();
        theLeastNumber();
        behindAllOfTheNames();
        thoseThatAreOn();
        itselfToo();
        ring();
        needs();
        breaks();
        name();
        wishesInOrder();
        allFourWishes();
        turnNoneSuch();
        weaveWithoutAGame();
        weaveGoesBefore();
        toldOfOthers();
        toldByTheLatest();
        toldSteps();
        House.finish();
    }

    private static WeaveHouse mods(String... texts) {
        return Mods.of(GAME, texts);
    }

    /** "MODS 0 .. 7 are kept". */
    private static void eightAreKept() {
        WeaveHouse house = mods();
        for (int i = 0; i < 8; i++) {
            House.due("kept ahead of mod " + i, house.count(3), i);
            House.due("the next number", House.load(house, "mod M" + i + " { }"), i);
        }
        House.due("no ninth", House.load(house, "mod M8 { }"), -2);
        House.due("eight are kept", house.count(3), 8);
        House.due("eight are adopted", house.weave(), 8);
        Mods.places(house, 0, 1, 2, 3, 4, 5, 6, 7);
        // The row runs against the numbers as well.
        WeaveHouse back = mods("mod A after B { }", "mod B after C { }", "mod C after D { }", "mod D after E { }", "mod E after F { }", "mod F after G { }",
                "mod G after H { }", "mod H { }");
        Mods.places(back, 7, 6, 5, 4, 3, 2, 1, 0);
        Mods.whys(back, 0, 0, 0, 0, 0, 0, 0, 0);
    }

    /** "each on or off (on at first)". */
    private static void onAtFirst() {
        WeaveHouse house = mods("mod M { }");
        Mods.whys(house, 0);
        house.turn(0, false);
        House.due("off", house.weave(), 0);
        Mods.whys(house, -1);
        House.game(house, GAME);
        House.load(house, "mod N { }");
        House.due("another mod 0 is on at first", house.weave(), 1);
    }

    /** "again and again the one with the least number that is not in it yet and comes behind no one that is not in it yet". */
    private static void theLeastNumber() {
        Mods.places(mods("mod A { }", "mod B { }", "mod C { }"), 0, 1, 2);
        Mods.places(mods("mod A after C { }", "mod B { }", "mod C { }"), 2, 0, 1);
        // Once C is in the row, A comes ahead of D.
        Mods.places(mods("mod A after C { }", "mod B after D { }", "mod C { }", "mod D { }"), 1, 3, 0, 2);
        Mods.places(mods("mod A after B after C { }", "mod B { }", "mod C { }", "mod D { }"), 2, 0, 1, 3);
    }

    /** "it comes behind all those .. of the names that it tells by after or needs". */
    private static void behindAllOfTheNames() {
        Mods.places(mods("mod A after B { }", "mod B { }"), 1, 0);
        Mods.places(mods("mod A needs B { }", "mod B { }"), 1, 0);
        Mods.places(mods("mod A breaks B { }", "mod B { }"), 0, 1);
        Mods.places(mods("mod A after B { }", "mod B { }", "mod B { }", "mod C { }", "mod B { }"), 4, 0, 1, 2, 3);
        Mods.places(mods("mod A after B needs C after D needs E { }", "mod E { }", "mod D { }", "mod C { }", "mod B { }"), 4, 0, 1, 2, 3);
        // One that is left out later is waited for, too.
        WeaveHouse house = mods("mod A after B { }", "mod B needs X { }");
        Mods.places(house, 1, 0);
        Mods.whys(house, 0, 2);
        // A name that none has is not waited for.
        Mods.places(mods("mod A after X { }", "mod B needs X { }"), 0, 1);
    }

    /** "(that are on ..)". */
    private static void thoseThatAreOn() {
        WeaveHouse house = mods("mod A after B { }", "mod B after A { }", "mod C { }");
        Mods.whys(house, 1, 1, 0);
        house.turn(1, false);
        House.due("without B", house.weave(), 2);
        Mods.places(house, 0, -1, 1);
        house.turn(0, false);
        house.turn(2, false);
        House.due("all off", house.weave(), 0);
        Mods.places(house, -1, -1, -1);
        house.turn(1, true);
        House.due("B alone", house.weave(), 1);
        Mods.places(house, -1, 0, -1);
        WeaveHouse off = mods("mod A needs B { }", "mod B { }");
        off.turn(1, false);
        off.weave();
        Mods.whys(off, 2, -1);
        Mods.places(off, 0, -1);
    }

    /** "(.. itself, too)". */
    private static void itselfToo() {
        Mods.whys(mods("mod A after A { }"), 1);
        Mods.whys(mods("mod A needs A { }"), 1);
        Mods.whys(mods("mod A breaks A { }"), 0);
        // Of the same name, one that does not tell it comes first, and the other is itself of that name.
        WeaveHouse house = mods("mod A after A { }", "mod A { }");
        Mods.whys(house, 1, 0);
        Mods.places(house, -1, 0);
    }

    /** "What is left when there is none such is LEFT OUT: 1 RING." */
    private static void ring() {
        WeaveHouse two = mods("mod A after B { }", "mod B after A { }");
        Mods.whys(two, 1, 1);
        Mods.places(two, -1, -1);
        Mods.whys(mods("mod A after B { }", "mod B needs C { }", "mod C after A { }"), 1, 1, 1);
        // What comes behind a ring is left, what is ahead of it is not.
        WeaveHouse more = mods("mod A after B after Z { }", "mod B after A { }", "mod C needs A { }", "mod D after C { }", "mod Z { }");
        Mods.whys(more, 1, 1, 1, 1, 0);
        Mods.places(more, -1, -1, -1, -1, 0);
        Mods.whys(mods("mod A after B { }", "mod B after C { }", "mod C after D { }", "mod D after E { }", "mod E after F { }", "mod F after G { }",
                "mod G after H { }", "mod H after A { }"), 1, 1, 1, 1, 1, 1, 1, 1);
        // RING comes ahead of all other whys.
        Mods.whys(mods("mod A needs X after A { class A { } }"), 1);
    }

    /** "2 NEEDS: none of a name that it needs is adopted ahead of it". */
    private static void needs() {
        Mods.whys(mods("mod A needs B { }", "mod B { }"), 0, 0);
        Mods.whys(mods("mod A needs B { }"), 2);
        Mods.whys(mods("mod A needs B needs C { }", "mod B { }"), 2, 0);
        Mods.whys(mods("mod A needs B needs C { }", "mod C { }"), 2, 0);
        Mods.whys(mods("mod A needs B needs C { }", "mod C { }", "mod B { }"), 0, 0, 0);
        // One of the name is enough; one that is left out is none.
        Mods.whys(mods("mod A needs B { }", "mod B { patch X { } }", "mod B { }"), 0, 6, 0);
        Mods.whys(mods("mod A needs B { }", "mod B { patch X { } }"), 2, 6);
        Mods.whys(mods("mod A needs B { }", "mod B needs C { }", "mod C needs D { }"), 2, 2, 2);
        // After is no need.
        Mods.whys(mods("mod A after B { }"), 0);
        // The game's classes are no mods.
        Mods.whys(mods("mod M needs A { }"), 2);
    }

    /** "3 BREAKS: one that it breaks is adopted, or breaks it, by its name". */
    private static void breaks() {
        Mods.whys(mods("mod A { }", "mod B breaks A { }"), 0, 3);
        Mods.whys(mods("mod A breaks B { }", "mod B { }"), 0, 3);
        Mods.whys(mods("mod A breaks B { }", "mod B breaks A { }"), 0, 3);
        Mods.whys(mods("mod A breaks C { }", "mod B breaks D { }"), 0, 0);
        // One that is left out, or off, or comes later, stands in no one's way.
        Mods.whys(mods("mod A breaks B needs X { }", "mod B { }"), 2, 0);
        Mods.whys(mods("mod A { patch X { } }", "mod B breaks A { }"), 6, 0);
        WeaveHouse off = mods("mod A breaks B { }", "mod B { }");
        off.turn(0, false);
        off.weave();
        Mods.whys(off, -1, 0);
        Mods.whys(mods("mod A after B { }", "mod B breaks A { }"), 3, 0);
        // It needs what breaks it.
        Mods.whys(mods("mod A needs B { }", "mod B breaks A { }"), 3, 0);
    }

    /** "4 NAME: an adopted one has its name". */
    private static void name() {
        WeaveHouse house = mods("mod A { }", "mod A { }", "mod a { }");
        Mods.whys(house, 0, 4, 0);
        Mods.places(house, 0, 1, 2);
        Mods.whys(mods("mod A { patch X { } }", "mod A { }"), 6, 0);
        Mods.whys(mods("mod A after B { }", "mod B { }", "mod A { }"), 0, 0, 4);
    }

    /** The first WHY: 2 ahead of 3, 3 ahead of 4, 4 ahead of what its things tell. */
    private static void wishesInOrder() {
        Mods.whys(mods("mod A { }", "mod B breaks A needs X { class A { } }"), 0, 2);
        Mods.whys(mods("mod A { }", "mod A needs X breaks A { }"), 0, 2);
        Mods.whys(mods("mod A { }", "mod A breaks A { class A { } }"), 0, 3);
        Mods.whys(mods("mod A { }", "mod A { class A { } }"), 0, 4);
        Mods.whys(mods("mod A { }", "mod B { class A { } }"), 0, 5);
    }

    /** Each of four wishes counts, be it the first or the last. */
    private static void allFourWishes() {
        for (int at = 0; at < 4; at++) {
            String[] wishes = {"after X ", "after X ", "after X ", "after X "};
            wishes[at] = "needs Y ";
            Mods.whys(mods("mod A " + String.join("", wishes) + "{ }"), 2);
            Mods.places(mods("mod A " + String.join("", wishes) + "{ }", "mod Y { }"), 1, 0);
            wishes[at] = "breaks Y ";
            Mods.whys(mods("mod Y { }", "mod A " + String.join("", wishes) + "{ }"), 0, 3);
            Mods.whys(mods("mod A " + String.join("", wishes) + "{ }", "mod Y { }"), 0, 3);
            wishes[at] = "after Y ";
            Mods.places(mods("mod A " + String.join("", wishes) + "{ }", "mod Y { }"), 1, 0);
        }
    }

    /** "A mod is on, or off: true; false when there is none such." */
    private static void turnNoneSuch() {
        WeaveHouse house = mods();
        House.due("none at all", house.turn(0, true), false);
        for (int i = 0; i < 8; i++) {
            House.due("not yet " + i, house.turn(i, false), false);
            House.load(house, "mod M" + i + " { }");
            House.due("there is " + i, house.turn(i, true), true);
        }
        House.due("no mod 8", house.turn(8, false), false);
        House.due("no mod -1", house.turn(-1, false), false);
        House.due("far", house.turn(Integer.MAX_VALUE, false), false);
        House.due("far below", house.turn(Integer.MIN_VALUE, false), false);
        House.due("all are on", house.weave(), 8);
        House.due("the last one off", house.turn(7, false), true);
        House.due("off again", house.turn(7, false), true);
        House.due("seven", house.weave(), 7);
        House.due("on again", house.turn(7, true), true);
        House.due("on twice", house.turn(7, true), true);
        House.due("eight", house.weave(), 8);
        House.game(house, GAME);
        House.due("none behind another game", house.turn(0, true), false);
    }

    /** "NONE without a game." */
    private static void weaveWithoutAGame() {
        WeaveHouse house = new WeaveHouse();
        House.due("a new object", house.weave(), -1);
        House.due("nothing is woven", house.count(2), 0);
        House.game(house, "class");
        House.due("a game with a fault", house.weave(), -1);
        House.due("still nothing", house.count(2), 0);
        House.game(house, GAME);
        House.due("a game", house.weave(), 0);
        House.due("is woven", house.count(2), 1);
        House.game(house, "class");
        House.due("a fault behind a game", house.weave(), 0);
    }

    /** "(What was woven before goes; the machine has not started then.)" */
    private static void weaveGoesBefore() {
        WeaveHouse house = mods("mod M { class B { } patch A { head main { push 5; out; } } }");
        house.start();
        house.go(4);
        house.turn(0, false);
        House.due("woven without", house.weave(), 0);
        House.due("its class is gone", house.count(0), 1);
        House.due("its code is gone", house.method(0, 0, 3), 4);
        for (int what = 0; what <= 11; what++) {
            House.due("state " + what, house.state(what), 0);
        }
        House.due("no output", house.output(0), 0);
        House.due("nothing on the pile", house.top(0, 0), 0);
        House.due("no steps of the mod", house.told(0, 2), 0);
        House.due("it does not go", house.go(1), -1);
    }

    /** "NONE for others": mods and things that there are not. */
    private static void toldOfOthers() {
        WeaveHouse house = mods("mod M { }", "mod N { }");
        for (int what : new int[] {-1, 3, Integer.MIN_VALUE, Integer.MAX_VALUE}) {
            House.due("told 0 " + what, house.told(0, what), -1);
            House.due("told 1 " + what, house.told(1, what), -1);
        }
        for (int mod : new int[] {-1, 2, 7, 8, Integer.MIN_VALUE, Integer.MAX_VALUE}) {
            for (int what = 0; what <= 2; what++) {
                House.due("told " + mod + " " + what, house.told(mod, what), -1);
            }
        }
        House.due("the last one's place", house.told(1, 1), 1);
        House.due("the last one's steps", house.told(1, 2), 0);
    }

    /** "by the latest weave(): .. NONE off, or kept behind that". */
    private static void toldByTheLatest() {
        WeaveHouse house = mods("mod M { }", "mod N after M { }", "mod O after O { }");
        house.turn(0, false);
        Mods.whys(house, 0, 0, 1);
        Mods.places(house, 0, 1, -1);
        House.load(house, "mod P { }");
        House.due("kept behind that", house.told(3, 0), -1);
        House.due("its place", house.told(3, 1), -1);
        house.weave();
        Mods.whys(house, -1, 0, 1, 0);
        Mods.places(house, -1, 0, -1, 1);
        House.load(house, "mod Q");
        Mods.whys(house, -1, 0, 1, 0);
        // No weaving since the game: nothing is told of the new mods.
        House.game(house, GAME);
        House.load(house, "mod R { }");
        Mods.places(house, -1);
        House.due("why", house.told(0, 0), -1);
    }

    /** "2 steps that ORDERS of it did since start()". */
    private static void toldSteps() {
        WeaveHouse house = mods("mod M { patch A { head main { push 5; out; } } }", "mod N { patch A { tail main { value; set; value; get f; pop; } } }");
        House.due("not started", house.told(0, 2), 0);
        house.start();
        House.due("no steps yet", house.told(0, 2), 0);
        house.go(1);
        House.due("the first step", house.told(0, 2), 1);
        house.go(1);
        House.due("the second step", house.told(0, 2), 2);
        house.go(100);
        House.due("no third", house.told(0, 2), 2);
        // The order that fails did no step.
        House.due("of the tail", house.told(1, 2), 3);
        House.due("the state", house.state(0), 11);
        house.start();
        House.due("since start", house.told(1, 2), 0);
    }
}
