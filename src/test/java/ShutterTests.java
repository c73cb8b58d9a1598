/** Promises 22 to 25, 35 and 36: shutters and curtains that make HOUSES RIGHT. */
final class ShutterTests {
    /** All see all; DISTANCES: 0 and 1 two, 0 and 2 five, 1 and 2 four. */
    private static final String THREE = "thing 1 0 0 3 2;thing 1 2 1 3 0;thing 1 3 5 3 1";
    private static final String SQUARE = "thing 1 0 0 3 0;thing 1 1 0 3 0;thing 1 0 1 3 0;thing 1 1 1 3 0";

    private ShutterTests() {
    }

    static void promise22Cost() {
        SeenByOne x = Due.told(THREE + ";thing 5 9 9 0 9;thing 2 0 9 1 1;far 1");
        int[][] want = {{-6, 2, 6}, {4, -6, 5}, {7, 4, -6}};
        for (int i = 0; i < 3; i++) {
            for (int j = 0; j < 3; j++) {
                Due.is("cost(" + i + ", " + j + ")", x.cost(i, j), want[i][j]);
            }
        }
        Due.is("cost(0, 3)", x.cost(0, 3), 18);
        Due.is("cost(3, 0)", x.cost(3, 0), 11);
        Due.is("no THING i, no HOUSE j", x.cost(5, 4), -1);
        Due.is("no THING j", x.cost(4, -1), -1);
        Due.is("no HOUSE, the same", x.cost(4, 4), -2);
        Due.is("no HOUSE j", x.cost(0, 4), -2);
        Due.is("the same", x.cost(0, 0), -6);
        Due.refused(x, 2, 2, 0, 0, 0, 4, 0);
    }

    static void promise23Cheapest() {
        SeenByOne x = Due.told(THREE);
        Due.cheapest(x, 4 + 2 + 5, 0, 3);
        x.shut(1, 2, true);
        Due.cheapest(x, 4 + 2, 0, 2);
        x.shut(0, 2, true);
        Due.cheapest(x, 4 + 2, 4, 2);
        x.draw(2, true);
        Due.cheapest(x, 0, 4, 0);
        x.draw(0, true);
        Due.cheapest(x, 0, 2 + 4, 0);
        x.draw(1, true);
        Due.cheapest(x, 0, 7, 0);
        Due.cheapest(new SeenByOne(), 0, 0, 0);
    }

    static void promise23CheapestByKinds() {
        SeenByOne x = Due.told("thing 3 0 0 3 2;thing 1 2 1 3 0;thing 4 3 5 3 1;thing 0 9 9 9 9");
        Due.is("SEERS of the TOWER", x.seers(0), 6);
        Due.is("SEERS of the HOUSE", x.seers(1), 4);
        Due.is("SEERS of the SHY one", x.seers(2), 2);
        Due.cheapest(x, 4 + 5, 0, 2);
        x.shut(1, 2, true);
        Due.cheapest(x, 4, 0, 1);
        Due.is("cheapest(3)", x.cheapest(3), -5);
        Due.is("cheapest(-1)", x.cheapest(-1), -5);
        Due.refused(x, 0, 0, 0, 0, 2, 0, 0);
    }

    static void promise24Keeps() {
        SeenByOne x = Due.told(THREE);
        Due.is("keeps(0)", x.keeps(0), 2);
        Due.is("keeps(1)", x.keeps(1), 2);
        Due.is("keeps(2)", x.keeps(2), 0);
        x.draw(2, true);
        Due.is("keeps(1) with 2 DRAWN", x.keeps(1), 0);
        x.shut(0, 1, true);
        Due.is("keeps(1): none", x.keeps(1), -1);
        SeenByOne y = Due.told("thing 0 9 9 9 9;thing 4 0 0 3 0;thing 1 1 0 3 0;thing 1 0 1 3 0;thing 1 1 1 3 0");
        Due.is("a SHY one keeps none", y.keeps(1), -1);
        Due.is("of several the first", y.keeps(4), 1);
        Due.is("of several the first", y.keeps(2), 1);
        Due.is("keeps(5)", y.keeps(5), -11);
        Due.is("keeps(-1)", y.keeps(-1), -11);
        Due.is("keeps(0)", y.keeps(0), -12);
        Due.refused(y, 2, 1, 0, 0, 0, 0, 0);
    }

    static void promise25Curtains() {
        SeenByOne x = Due.told(SQUARE);
        Due.curtains(x, 7, 3, 7, 6);
        x.draw(3, true);
        Due.curtains(x, 7, 3, 7, 6);
        Due.is("nothing is changed", x.status(5), 1);
        x.shut(3, 0, true);
        Due.curtains(x, 3, 3, 3, 6);
        Due.curtains(new SeenByOne(), 0, 0, 0, 0);
        Due.curtains(Due.told("thing 0 0 0 1 1;thing 1 1 1 1 1"), 0, 0, 0, 0);
        Due.curtains(Due.told("thing 0 0 0 1 1;thing 4 1 1 1 1"), 0, 1, 0, 2);
        Due.curtains(Due.told("thing 4 0 0 3 0;thing 4 1 0 3 0;draw 0;draw 1"), 3, 2, 3, 4);
    }

    /** Two are RIGHT with 2 DRAWN, or with 0 and 1. */
    static void promise25CurtainsOfTheFewest() {
        SeenByOne x = Due.told("thing 4 0 0 3 0;thing 1 1 0 3 0;thing 4 0 1 3 0;shut 1 0");
        Due.curtains(x, 4, 2, 4, 4);
    }

    static void promise25CurtainsOfEight() {
        SeenByOne x = Due.told(Due.EIGHT);
        Due.curtains(x, 127, 7, 127, 14);
    }

    /** The TREE stands between 0 and 1 in summer; in winter they see each other. */
    static void promise25CurtainsInBoth() {
        SeenByOne x = Due.told("thing 1 0 0 3 0;thing 4 2 0 3 0;thing 2 1 0 3 9");
        Due.curtains(x, 0, 1, 1, 1 + 2);
        Due.is("it is SUMMER still", x.ask(0, 0), 1);
        Due.curtains(x, 1, 2, 1, 1 + 2);
        Due.is("it is winter still", x.status(2), 0);
        SeenByOne y = Due.told("thing 4 0 0 3 0;thing 4 2 0 3 0;thing 2 1 0 3 9");
        Due.curtains(y, 0, 2, 3, 4);
        y.ask(0, 0);
        Due.curtains(y, 3, 2, 3, 4);
    }

    static void promise25CurtainsRefusals() {
        SeenByOne x = Due.told(SQUARE);
        Due.is("curtains(4)", x.curtains(4), -5);
        Due.is("curtains(-1)", x.curtains(-1), -5);
        Due.refused(x, 0, 0, 0, 0, 2, 0, 0);
    }

    static void promise35Shuts() {
        SeenByOne x = Due.told(THREE + ";thing 3 9 9 3 0");
        Due.is("shuts()", x.shuts(), (4) + (2) + (5) + (6 + 8));
        Due.is("SHUTTERS", x.status(4), 3 + 2);
        Due.is("all are RIGHT", x.right(), 15);
        Due.is("0 is seen by its dearest", x.seers(0), 4);
        Due.is("1 is", x.seers(1), 4);
        Due.is("2 is", x.seers(2), 1);
        Due.is("the TOWER by its dearest", x.seers(3), 1);
        Due.is("the TOWER sees still", x.sees(3, 0, 1), 1);
        Due.is("shuts() again", x.shuts(), 0);
        Due.is("SHUTTERS", x.status(4), 5);
        Due.is("shuts() of none", new SeenByOne().shuts(), 0);
    }

    static void promise35ShutsOfEight() {
        SeenByOne x = Due.told(Due.EIGHT);
        int cheapest = x.cheapest(0);
        Due.is("cheapest(2)", x.cheapest(2), 8 * 6);
        Due.is("shuts()", x.shuts(), cheapest);
        Due.is("SHUTTERS", x.status(4), 48);
        Due.is("right()", x.right(), 255);
        Due.is("seers(7)", x.seers(7), 1);
        Due.is("cheapest(0) then", x.cheapest(0), 0);
        Due.is("opens()", x.opens(), 48);
        Due.is("SHUTTERS", x.status(4), 0);
        Due.is("seers(7)", x.seers(7), 127);
    }

    static void promise35ShutsRefusals() {
        SeenByOne x = Due.told(SQUARE + ";thing 1 9 9 3 0;far 1");
        Due.is("cheapest(1)", x.cheapest(1), 16);
        Due.is("shuts()", x.shuts(), -6);
        Due.is("SHUTTERS", x.status(4), 0);
        Due.refused(x, 0, 0, 0, 0, 0, 1, 0);
    }

    static void promise36Opens() {
        SeenByOne x = Due.told(SQUARE + ";thing 5 9 9 3 0;shut 0 1;shut 1 0;shut 4 0;draw 0;draw 4");
        Due.is("opens()", x.opens(), 5);
        Due.is("SHUTTERS", x.status(4), 0);
        Due.is("curtains", x.status(5), 0);
        Due.is("0 sees again", x.sees(0, 1, 1), 1);
        Due.is("opens() again", x.opens(), 0);
    }
}
