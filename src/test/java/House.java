import java.nio.charset.StandardCharsets;

/** What the tests share: feeding texts, and counting the answers that are not due. */
final class House {
    private static int wrong;
    private static int asked;

    private House() {
    }

    /** Puts a text on the tape, which must be empty ahead of it. */
    static void text(WeaveHouse house, String text) {
        byte[] bytes = text.getBytes(StandardCharsets.ISO_8859_1);
        if (bytes.length > 4000) {
            due("bytes of a test's own text", bytes.length, 4000);
        }
        for (int i = 0; i < bytes.length; i += 20) {
            house.feed(four(bytes, i), four(bytes, i + 4), four(bytes, i + 8), four(bytes, i + 12), four(bytes, i + 16));
        }
        house.end(bytes.length);
    }

    private static int four(byte[] bytes, int from) {
        int number = 0;
        for (int i = from; i < from + 4; i++) {
            number = number << 8 | (i < bytes.length ? bytes[i] & 255 : 0);
        }
        return number;
    }

    static int game(WeaveHouse house, String text) {
        text(house, text);
        return house.game();
    }

    static int load(WeaveHouse house, String text) {
        text(house, text);
        return house.load();
    }

    /** A house with this game and these mods, woven and started. */
    static WeaveHouse woven(String game, String... mods) {
        WeaveHouse house = new WeaveHouse();
        due("game " + game, game(house, game) > 0, true);
        for (String mod : mods) {
            due("load " + mod, load(house, mod) >= 0, true);
        }
        house.weave();
        house.start();
        return house;
    }

    /** A game with one class whose only method is main with this body. */
    static String mainGame(String body) {
        return "class A { field f; field g; method main() { " + body + " } }";
    }

    /** A pattern again and again, with each number in the place of %. */
    static String many(int from, int to, String pattern) {
        StringBuilder all = new StringBuilder();
        for (int i = from; i <= to; i++) {
            all.append(pattern.replace("%", String.valueOf(i)));
        }
        return all.toString();
    }

    static void due(String what, long got, long want) {
        asked++;
        if (got != want) {
            wrong++;
            System.out.println(what + ": answered " + got + ", due is " + want);
        }
    }

    static void due(String what, boolean got, boolean want) {
        due(what, got ? 1 : 0, want ? 1 : 0);
    }

    /** Ends the program of a test, with code 1 if an answer was not due. */
    static void finish() {
        System.out.println(asked + " answers, " + wrong + " not as due");
        if (wrong != 0) {
            System.exit(1);
        }
    }
}
