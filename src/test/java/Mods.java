/** Houses with a game and mods that are woven, and what is told of the mods. */
final class Mods {
    private Mods() {
    }

    static WeaveHouse of(String game, String... texts) {
        WeaveHouse house = new WeaveHouse();
        House.due("game " + game, House.game(house, game) > 0, true);
        for (String text : texts) {
            House.due("load " + text, House.load(house, text) >= 0, true);
        }
        house.weave();
        return house;
    }

    /** Each mod's why is as due, and so many are adopted. */
    static void whys(WeaveHouse house, int... due) {
        int adopted = 0;
        for (int mod = 0; mod < due.length; mod++) {
            House.due("why of mod " + mod, house.told(mod, 0), due[mod]);
            adopted += due[mod] == 0 ? 1 : 0;
        }
        if (house.count(3) == due.length) {
            House.due("how many are adopted", house.count(1), adopted);
        }
    }

    static void places(WeaveHouse house, int... due) {
        for (int mod = 0; mod < due.length; mod++) {
            House.due("place of mod " + mod, house.told(mod, 1), due[mod]);
        }
    }

    /** Mods with these patches of A, the last of which is left out for this why (0: adopted), the others adopted. */
    static WeaveHouse last(int why, String game, String... patches) {
        String[] texts = new String[patches.length];
        int[] due = new int[patches.length];
        for (int i = 0; i < patches.length; i++) {
            texts[i] = "mod M" + i + "{patch A{" + patches[i] + "}}";
        }
        due[patches.length - 1] = why;
        WeaveHouse house = of(game, texts);
        whys(house, due);
        return house;
    }
}
