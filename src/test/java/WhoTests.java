/** Promises 30 to 34: pairs, chains, who sees most, told LISTS, a curtain moved by NIGHT. */
final class WhoTests {
    private static final String SQUARE = "thing 1 0 0 3 0;thing 1 1 0 3 0;thing 1 0 1 3 0;thing 1 1 1 3 0";
    private static final String BEHIND_A_TREE = "thing 1 0 0 3 0;thing 1 2 0 3 0;thing 2 1 0 3 1";

    /** Six walls, and two HOUSES that see each other. */
    private static final String FILLED = "thing 0 0 5 0 0;thing 0 1 5 0 0;thing 0 2 5 0 0;thing 0 3 5 0 0;thing 0 4 5 0 0;"
        + "thing 0 5 5 0 0;thing 1 0 0 3 0;thing 1 1 0 3 0";

    private WhoTests() {
    }

    static void promise30Pairs() {
        SeenByOne x = Due.told(SQUARE);
        Due.is("pairs()", x.pairs(), 6);
        x.shut(0, 1, true);
        Due.is("pairs() with a sight SHUT", x.pairs(), 5);
        x.shut(1, 0, true);
        Due.is("pairs() with both", x.pairs(), 5);
        x.draw(3, true);
        Due.is("pairs() with a curtain", x.pairs(), 2);
        Due.is("a TOWER in a pair", Due.told("thing 3 0 0 3 0;thing 1 1 0 3 0").pairs(), 1);
        Due.is("a BLIND one in none", Due.told("thing 5 0 0 3 0;thing 1 1 0 3 0").pairs(), 0);
        Due.is("pairs() of none", new SeenByOne().pairs(), 0);
    }

    static void promise30PairsWithTheLast() {
        SeenByOne x = Due.told(FILLED);
        Due.is("pairs()", x.pairs(), 1);
        Due.is("most(), of two the first", x.most(), 6);
        Due.is("night(128): 7 has drawn its", x.night(128), 128);
        x.draw(6, true);
        Due.is("most(): the last", x.most(), 7);
    }

    static void promise31Back() {
        SeenByOne x = Due.told("thing 1 0 0 3 0;thing 1 1 0 3 0;thing 1 0 1 3 0");
        Due.is("back(0)", x.back(0), 2);
        Due.is("back(1)", x.back(1), 2);
        Due.is("back(2): never", x.back(2), -1);
        x.shut(0, 1, true);
        for (int house = 0; house < 3; house++) {
            Due.is("back(" + house + ") in a ring", x.back(house), 3);
        }
        x.draw(1, true);
        Due.is("back(0): by 2", x.back(0), 2);
        Due.is("back(1): by 2, and never again", x.back(1), -1);
        x.draw(0, true);
        x.draw(2, true);
        Due.is("back(0): no SEER", x.back(0), -1);
        SeenByOne y = Due.told("thing 3 0 0 3 0;thing 1 1 0 3 0;thing 1 0 1 3 0");
        Due.is("TOWERS aren't SEERS", y.back(0), -1);
        Due.is("back(1)", y.back(1), 2);
        Due.refused(x, 0, 0, 0, 0, 0, 0, 0);
    }

    static void promise31BackBehindEight() {
        SeenByOne x = new SeenByOne();
        for (int n = 0; n < 8; n++) {
            x.thing(1, n, n * n % 9, 3, 0);
        }
        for (int i = 0; i < 8; i++) {
            for (int j = 0; j < 8; j++) {
                if (i != j && i != (j + 3) % 8) {
                    Due.is("shut", x.shut(i, j, true), 1);
                }
            }
        }
        for (int house = 0; house < 8; house++) {
            Due.is("back(" + house + ")", x.back(house), 8);
        }
    }

    static void promise31BackRefusals() {
        SeenByOne x = Due.told("thing 1 0 0 3 0;thing 0 1 0 3 0");
        Due.is("back(2)", x.back(2), -11);
        Due.is("back(-1)", x.back(-1), -11);
        Due.is("back(1)", x.back(1), -12);
        Due.refused(x, 2, 1, 0, 0, 0, 0, 0);
    }

    static void promise32Most() {
        SeenByOne x = Due.told("thing 0 9 9 0 0;" + SQUARE);
        Due.is("most(), of several the first", x.most(), 1);
        x.shut(1, 2, true);
        Due.is("most()", x.most(), 2);
        x.draw(2, true);
        x.shut(3, 4, true);
        Due.is("most(): the last", x.most(), 4);
        x.opens();
        for (int house = 1; house < 5; house++) {
            x.draw(house, true);
        }
        Due.is("most(): all see nothing", x.most(), 1);
        Due.is("most(): 0", Due.told(SQUARE).most(), 0);
        SeenByOne y = Due.told("thing 1 0 0 3 0;thing 1 1 0 3 0;thing 3 0 1 3 0;thing 5 1 1 3 0;shut 0 1;shut 1 0");
        Due.is("most(): a TOWER", y.most(), 2);
    }

    static void promise32MostRefusals() {
        SeenByOne x = new SeenByOne();
        Due.is("most() of none", x.most(), -5);
        Due.tell(x, "thing 0 0 0 1 1;thing 2 1 1 1 1;thing 6 2 2 1 1");
        Due.is("most() without HOUSES", x.most(), -5);
        Due.refused(x, 0, 0, 0, 0, 2, 0, 0);
    }

    static void promise33List() {
        SeenByOne x = Due.told("thing 3 0 0 3 0;thing 1 1 0 3 0;thing 5 0 1 3 0;thing 0 1 1 9 0");
        Due.put(x, 0, 0, 2, 1, 3, 0);
        Due.list(x, -1, 0, 3);
        Due.put(x, 0, 0, 2 - 16, 1 + 32, 3 + 64, 16, 99);
        Due.list(x, -1, 0, 3);
        Due.put(x, 0, 3, 2 + (1L << 40), 1 + (15L << 32), 3, 0);
        Due.list(x, -1, 0, 3);
        Due.put(x, 0, 2, 2, 1, 3, 1);
        Due.list(x, 3, 1, 0);
        Due.put(x, 0, 1, 2, 2, 15, -1);
        Due.list(x, 1, 2 + 2 + 4, 0);
        Due.put(x, 0, 1, 3, 1, 3, 0);
        Due.list(x, 0, 1, 0);
        x.shut(0, 2, true);
        Due.put(x, 0, 1, 2, 1, 2, 0);
        Due.list(x, -1, 0, 3);
        x.draw(1, true);
        Due.put(x, 0, 1, 0, 1, 0, 0);
        Due.list(x, -1, 0, 3);
        SeenByOne none = new SeenByOne();
        none.row(0, 0, 0);
        Due.list(none, -1, 0, 3);
        Due.put(none, 0, 0, 7);
        Due.list(none, -1, 0, 3);
    }

    static void promise33ListFits() {
        SeenByOne x = Due.told(BEHIND_A_TREE);
        Due.put(x, 0, 0, 0, 0, 0);
        Due.list(x, -1, 0, 1);
        Due.put(x, 0, 0, 2, 1, 0);
        Due.list(x, 0, 2, 2);
        Due.put(x, 0, 0, 2, 0, 0);
        Due.list(x, 0, 1, 0);
        x.ask(0, 0);
        Due.list(x, 1, 1, 0);
        Due.put(x, 0, 0, 0, 0, 0);
        Due.list(x, 0, 2, 1);
        Due.put(x, 0, 0, 2, 1, 0);
        Due.list(x, -1, 0, 2);
        Due.is("it is winter still", x.status(2), 0);
        x.draw(0, true);
        x.draw(1, true);
        Due.put(x, 0, 0, 0, 0, 0);
        Due.list(x, -1, 0, 3);
    }

    static void promise33ListRefusals() {
        SeenByOne x = Due.told(SQUARE);
        x.row(0, 0, 3);
        x.row(1, 0, 4);
        x.show(2, 0);
        Due.is("list(8, 0)", x.list(8, 0), -11);
        Due.is("list(-1, 3)", x.list(-1, 3), -11);
        Due.is("list of a THING", x.list(2, 3), -12);
        Due.is("list of NOTHING", x.list(3, 3), -13);
        Due.is("fewer elements", x.list(0, 0), -15);
        Due.is("another what", x.list(1, 3), -15);
        Due.is("another what", x.list(1, -1), -15);
        Due.is("enough", x.list(1, 0), 0);
        Due.refused(x, 2, 1, 1, 0, 3, 0, 0);
    }

    static void promise34Night() {
        SeenByOne x = Due.told("thing 0 9 9 0 0;thing 1 0 0 3 0;thing 1 1 0 3 0");
        Due.is("night(6): nobody", x.night(6), 0);
        Due.is("night(2): 1 has drawn its", x.night(2), 2);
        Due.is("night(4): 2 has", x.night(4), 4);
        Due.is("night(0): nobody", x.night(0), 0);
        x.draw(1, true);
        Due.is("night(6): 1 has drawn it back", x.night(6), 2);
        Due.is("night(0): 2 has drawn its", x.night(0), 4);
        Due.is("nothing is changed", x.status(5), 1);
        SeenByOne y = Due.told(SQUARE + ";thing 5 9 9 3 0");
        Due.is("night(0): each of them, the BLIND one too", y.night(0), 31);
        Due.is("night(16): nobody", y.night(16), 0);
        SeenByOne z = Due.told(SQUARE + ";draw 0;draw 1");
        Due.is("right()", z.right(), 4 + 8);
        Due.is("night(0): one of them back", z.night(0), 1 + 2);
        Due.is("night(1 + 2 + 4): 2 has drawn its", z.night(7), 4);
        Due.is("night(1 + 2 + 8): 3 has drawn its", z.night(11), 8);
    }

    static void promise34NightRefusals() {
        SeenByOne x = Due.told("thing 0 9 9 0 0;thing 1 0 0 3 0;thing 2 1 0 3 0");
        Due.is("night(1)", x.night(1), -6);
        Due.is("night(4 + 2)", x.night(6), -6);
        Due.is("night(8)", x.night(8), -6);
        Due.is("night(256)", x.night(256), -6);
        Due.is("night(-1)", x.night(-1), -6);
        Due.is("night(2)", x.night(2), 0);
        Due.refused(x, 0, 0, 0, 0, 0, 5, 0);
    }
}
