/** Promises 4 and 5: game and load. */
public final class TextTest {
    private static final String GAME = "class A { method main() { push 1; ret; } } class B : A { field f; }";

    private TextTest() {
    }

    public static void main(String[] args) {
        game();
        gameWithFault();
        gameAnew();
        load();
        loadNotRead();
        loadWithFault();
        loadBesideTheMachine();
        House.finish();
    }

    private static void game() {
        WeaveHouse house = new WeaveHouse();
        House.due("two classes", House.game(house, GAME), 2);
        House.due("the tape is used up", house.count(4), 0);
        House.due("nothing is woven yet", house.count(2), 0);
        House.due("no classes of a woven game", house.count(0), 0);
        House.due("no mods", house.count(3), 0);
        House.due("it does not start unwoven", house.start(), false);
        House.due("nothing to look at unwoven", house.klass(0, 0), -1);
        StringBuilder sixteen = new StringBuilder();
        for (int i = 0; i < 16; i++) {
            sixteen.append("class A").append(i).append("{}");
        }
        House.due("sixteen classes", House.game(house, sixteen.toString()), 16);
        House.due("an empty tape", house.game(), -1);
    }

    private static void gameWithFault() {
        WeaveHouse house = House.woven(GAME, "mod M { patch A { head main { push 5; out; } } }");
        house.go(2);
        House.due("a game with a fault", House.game(house, "class A { } class A { }"), -1);
        House.due("the tape is used up by a fault", house.count(4), 0);
        House.due("the woven game stays", house.count(2), 1);
        House.due("its classes stay", house.count(0), 2);
        House.due("the mods stay", house.count(3), 1);
        House.due("why stays", house.told(0, 0), 0);
        House.due("the machine stays", house.state(1), 2);
        House.due("output stays", house.output(0), 5);
        House.due("the machine goes on", house.go(10), 2);
        House.due("what main gave", house.state(10), 1);
        House.due("the game that stays is woven again", house.weave(), 1);
        House.due("and has its two classes", house.count(0), 2);
    }

    private static void gameAnew() {
        WeaveHouse house = House.woven(GAME, "mod M { patch A { head main { push 5; out; } } }", "mod N { }");
        house.go(2);
        House.due("another game", House.game(house, "class C { method main() { push 3; ret; } }"), 1);
        House.due("no woven game", house.count(2), 0);
        House.due("no adopted mods", house.count(1), 0);
        House.due("no mods are kept", house.count(3), 0);
        House.due("of no mod is told", house.told(0, 0), -1);
        House.due("no steps of no mod", house.told(0, 2), -1);
        House.due("no mod turns", house.turn(0, true), false);
        House.due("the machine has not started", house.state(0), 0);
        House.due("no steps", house.state(1), 0);
        House.due("go", house.go(1), -1);
        House.due("no output", house.output(0), 0);
        House.due("no object", house.object(1, 0), 0);
        House.due("nothing to start", house.start(), false);
        House.due("mods from 0 on", House.load(house, "mod N { }"), 0);
        House.due("a new mod is not told of", house.told(0, 0), -1);
        House.due("woven", house.weave(), 1);
        house.start();
        house.go(9);
        House.due("the new game runs", house.state(10), 3);
    }

    private static void load() {
        WeaveHouse house = new WeaveHouse();
        House.game(house, GAME);
        for (int i = 0; i < 8; i++) {
            House.due("mod " + i, House.load(house, "mod M" + i + " { patch A { } }"), i);
            House.due("mods kept", house.count(3), i + 1);
        }
        House.due("all of them are on", house.weave(), 8);
    }

    private static void loadNotRead() {
        WeaveHouse house = new WeaveHouse();
        House.due("no game", House.load(house, "mod M { }"), -2);
        House.due("the tape is used up without a game", house.count(4), 0);
        House.game(house, "class");
        House.due("a game with a fault is none", House.load(house, "mod M { }"), -2);
        House.game(house, GAME);
        for (int i = 0; i < 8; i++) {
            House.load(house, "mod M" + i + " { }");
        }
        House.due("a ninth mod", House.load(house, "mod M8 { }"), -2);
        House.due("the tape is used up by a ninth", house.count(4), 0);
        House.due("eight stay", house.count(3), 8);
        House.due("a ninth mod with a fault", House.load(house, "mod"), -2);
        House.due("the fault is of the latest that read", house.fault(0), 0);
    }

    private static void loadWithFault() {
        WeaveHouse house = new WeaveHouse();
        House.game(house, GAME);
        House.due("a mod", House.load(house, "mod M { patch A { tail main { push 2; set; } } }"), 0);
        House.due("a fault", House.load(house, "mod N { patch A { tail main { push 7; set; } }"), -1);
        House.due("the tape is used up", house.count(4), 0);
        House.due("one mod is kept", house.count(3), 1);
        House.due("the next number", House.load(house, "mod O { }"), 1);
        house.weave();
        house.start();
        house.go(100);
        House.due("the mod with the fault does nothing", house.state(10), 2);
    }

    private static void loadBesideTheMachine() {
        WeaveHouse house = House.woven(GAME, "mod M { }");
        house.go(1);
        House.due("load", House.load(house, "mod N { patch A { head main { push 9; out; } } }"), 1);
        House.due("the woven game stays", house.method(0, 0, 3), 2);
        House.due("the machine goes on", house.state(0), 1);
        House.due("with what it has", house.go(10), 1);
        House.due("over", house.state(0), 2);
        House.due("start again with what it has", house.start(), true);
        House.due("two steps", house.go(10), 2);
        House.due("of a mod kept behind the weaving", house.told(1, 0), -1);
        House.due("its place", house.told(1, 1), -1);
        House.due("its steps", house.told(1, 2), 0);
        House.due("woven with it", house.weave(), 2);
        House.due("the woven game is another", house.method(0, 0, 3), 4);
    }
}
