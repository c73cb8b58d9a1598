/** Terms, 2. SIGHTS: each bound that it names, on both sides. Its words stand above each test. */
final class SightTermsTests {
    private SightTermsTests() {
    }

    private static int looks(String text, int i, int j) {
        return Due.told(text).sees(i, j, 0);
    }

    /** "(HOUSES: all THINGS of KIND HOUSE or under it.)" */
    static void terms2HousesOfKindHouseOrUnder() {
        int[] wanted = {-2, 1, -2, 1, 1, 1, -2};
        for (int kind = 0; kind < 7; kind++) {
            SeenByOne x = Due.told("thing " + kind + " 1 0 3 3;thing 1 0 0 3 0");
            Due.is("KIND " + kind + " drawn", x.draw(0, true), wanted[kind]);
            Due.is("KIND " + kind + " seen", x.sees(1, 0, 0), wanted[kind]);
            Due.is("HOUSES with KIND " + kind, x.status(1), wanted[kind] == 1 ? 3 : 2);
        }
    }

    private static void tall(int kind, int height, int a, int inSummer, int inWinter) {
        SeenByOne x = Due.told("thing " + kind + " 5 5 " + height + " " + a);
        x.show(0, 0);
        Due.is("TALL in SUMMER of KIND " + kind, x.thingOf(0, 5), inSummer);
        Due.is("TALL, said, in SUMMER", x.says(0, 0), inSummer);
        x.ask(0, 0);
        Due.is("TALL in winter of KIND " + kind, x.thingOf(0, 5), inWinter);
        Due.is("TALL, said, in winter", x.says(0, 0), inWinter);
    }

    /** "TALL of a THING: HEIGHT; TREE: HEIGHT and a in SUMMER, 0 in winter; FIR: HEIGHT and a always." */
    static void terms2Tall() {
        int[] otherKinds = {0, 1, 3, 4, 5};
        for (int kind : otherKinds) {
            tall(kind, 0, 9, 0, 0);
            tall(kind, 20, 9, 20, 20);
        }
        tall(2, 0, 0, 0, 0);
        tall(2, 0, 9, 9, 0);
        tall(2, 20, 0, 20, 0);
        tall(2, 20, 9, 29, 0);
        tall(6, 0, 0, 0, 0);
        tall(6, 0, 9, 9, 9);
        tall(6, 20, 0, 20, 20);
        tall(6, 20, 9, 29, 29);
    }

    /** Promise 8, TREE: "by how much its TALL is more than HEIGHT (below 0: 0)" */
    static void terms2MoreThanHeight() {
        int[][] heightAndA = {{0, 0}, {0, 9}, {20, 0}, {20, 9}, {1, 1}};
        for (int[] of : heightAndA) {
            SeenByOne x = Due.told("thing 2 5 5 " + of[0] + " " + of[1] + ";thing 6 6 6 " + of[0] + " " + of[1]);
            x.show(0, 0);
            x.show(1, 1);
            Due.is("a TREE in SUMMER", x.says(0, 2), of[1]);
            Due.is("a FIR in SUMMER", x.says(1, 2), of[1]);
            x.ask(0, 0);
            Due.is("a TREE in winter", x.says(0, 2), 0);
            Due.is("a FIR in winter", x.says(1, 2), of[1]);
        }
    }

    /** "EYES of a HOUSE: HEIGHT; TOWER a more." Up to 29: as much as may stand in the way of 20 behind. */
    static void terms2Eyes() {
        int[][] towers = {{0, 0}, {0, 9}, {20, 0}, {20, 9}};
        for (int[] of : towers) {
            SeenByOne x = Due.told("thing 3 5 5 " + of[0] + " " + of[1]);
            x.show(0, 0);
            Due.is("EYES of a TOWER", x.says(0, 3), of[0] + of[1]);
            Due.is("its TALL", x.says(0, 0), of[0]);
        }
        String ends = "thing 3 0 0 20 9;thing 1 2 0 20 9;";
        Due.is("48 of 49", looks(ends + "thing 6 1 0 16 8", 0, 1), 1);
        Due.is("50 of 49", looks(ends + "thing 6 1 0 16 9", 0, 1), 0);
        Due.is("40 of 40 from the HOUSE", looks(ends + "thing 0 1 0 20 9", 1, 0), 1);
        Due.is("42 of 40 from the HOUSE", looks(ends + "thing 6 1 0 20 1", 1, 0), 0);
    }

    /** "A BLIND one has no EYES.": it looks into none, even beside it; others look into it. */
    static void terms2ABlindOne() {
        SeenByOne x = Due.told("thing 5 0 0 20 9;thing 1 1 0 0 0;thing 5 0 1 0 0");
        for (int j = 1; j < 3; j++) {
            Due.is("LOOKS INTO", x.sees(0, j, 0), 0);
            Due.is("SEES INTO", x.sees(0, j, 1), 0);
            Due.is("nothing is in the way", x.bars(0, j), -1);
        }
        Due.is("SEERS of a BLIND one", x.seers(0), 2);
        Due.is("SEERS of the HOUSE", x.seers(1), 0);
        x.draw(0, false);
        Due.is("a curtain doesn't matter", x.sees(0, 1, 1), 0);
    }

    /** "DISTANCE of two: the greater of how far X, and Y, are apart"; "DISTANCE is FAR at most" */
    static void terms2DistanceAndFar() {
        for (int distance = 1; distance <= 9; distance++) {
            for (int less = 0; less <= distance; less++) {
                SeenByOne x = Due.told("thing 1 0 9 3 0;thing 1 " + distance + " " + (9 - less) + " 3 0");
                SeenByOne y = Due.told("thing 1 9 0 3 0;thing 1 " + (9 - less) + " " + distance + " 3 0");
                Due.is("COST along X", x.cost(0, 1), distance);
                Due.is("COST along Y", y.cost(0, 1), distance);
                for (int far = 1; far <= 9; far++) {
                    x.ask(1, far);
                    y.ask(1, far);
                    int sees = distance <= far ? 1 : 0;
                    Due.is("DISTANCE " + distance + " along X, FAR " + far, x.sees(0, 1, 0) + x.sees(1, 0, 1), 2 * sees);
                    Due.is("DISTANCE " + distance + " along Y, FAR " + far, y.sees(0, 1, 0) + y.sees(1, 0, 1), 2 * sees);
                }
            }
        }
    }

    /** A look of HOUSE 0 into HOUSE 1 with walls of 20 at these PLACES. */
    private static void withWalls(String houses, int looks, int... places) {
        StringBuilder text = new StringBuilder(houses);
        for (int place : places) {
            text.append(";thing 0 ").append(place % 10).append(' ').append(place / 10).append(" 20 0");
        }
        SeenByOne x = Due.told(text.toString());
        Due.is("there, " + text, x.sees(0, 1, 0), looks);
        Due.is("back, " + text, x.sees(1, 0, 0), looks);
        Due.is("bars there, " + text, x.bars(0, 1), looks == 1 ? -1 : 2);
        Due.is("bars back, " + text, x.bars(1, 0), looks == 1 ? -1 : 2);
    }

    /** "no other THING that stands on the straight line between their PLACES": beside it and beyond don't count. */
    static void terms2BetweenTheirPlaces() {
        withWalls("thing 1 3 3 1 0;thing 1 6 3 1 0", 1, 32, 37, 24, 25, 44, 45);
        withWalls("thing 1 3 3 1 0;thing 1 6 3 1 0", 0, 34);
        withWalls("thing 1 3 3 1 0;thing 1 6 3 1 0", 0, 35);
        withWalls("thing 1 3 3 1 0;thing 1 3 6 1 0", 1, 23, 73, 42, 52, 44, 54);
        withWalls("thing 1 3 3 1 0;thing 1 3 6 1 0", 0, 43);
        withWalls("thing 1 3 3 1 0;thing 1 3 6 1 0", 0, 53);
        withWalls("thing 1 3 3 1 0;thing 1 6 6 1 0", 1, 22, 77, 43, 34, 54, 45);
        withWalls("thing 1 3 3 1 0;thing 1 6 6 1 0", 0, 44);
        withWalls("thing 1 3 3 1 0;thing 1 6 6 1 0", 0, 55);
        withWalls("thing 1 6 3 1 0;thing 1 3 6 1 0", 1, 27, 72, 44, 55, 43, 46);
        withWalls("thing 1 6 3 1 0;thing 1 3 6 1 0", 0, 45);
        withWalls("thing 1 6 3 1 0;thing 1 3 6 1 0", 0, 54);
    }

    /** "at n parts of that line (n the greatest number that divides ..)": 1 part lets none be between. */
    static void terms2OnePartLetsNoneBeBetween() {
        withWalls("thing 1 4 4 0 0;thing 1 5 4 0 0", 1, 43, 46, 34, 35, 54, 55);
        withWalls("thing 1 4 4 0 0;thing 1 5 5 0 0", 1, 45, 54, 33, 66, 34, 65);
        withWalls("thing 1 4 4 0 0;thing 1 5 6 0 0", 1, 54, 55, 45, 64, 34, 75);
        withWalls("thing 1 0 0 0 0;thing 1 9 8 0 0", 1, 11, 22, 44, 54, 77, 88);
        withWalls("thing 1 0 0 0 0;thing 1 1 9 0 0", 1, 10, 20, 40, 51, 61, 81);
        withWalls("thing 1 9 0 0 0;thing 1 2 9 0 0", 1, 18, 27, 35, 46, 54, 81);
    }

    /** The same where how far X and Y are apart is divided by 2, 3, 4, and where one of them is 0. */
    static void terms2PartsOfTheLine() {
        String slant = "thing 1 0 0 0 0;thing 1 6 3 0 0";
        withWalls(slant, 0, 12);
        withWalls(slant, 0, 24);
        withWalls(slant, 1, 11, 13, 22, 23, 25, 35);
        String steep = "thing 1 9 9 0 0;thing 1 7 1 0 0";
        withWalls(steep, 0, 58);
        withWalls(steep, 1, 79, 69, 68, 49, 47, 38);
        String longer = "thing 1 0 8 0 0;thing 1 8 4 0 0";
        withWalls(longer, 0, 72);
        withWalls(longer, 0, 64);
        withWalls(longer, 0, 56);
        withWalls(longer, 1, 81, 71, 73, 63, 65, 47);
        String nineBySix = "thing 1 0 0 0 0;thing 1 9 6 0 0";
        withWalls(nineBySix, 0, 23);
        withWalls(nineBySix, 0, 46);
        withWalls(nineBySix, 1, 11, 12, 22, 34, 35, 57);
    }

    /** "it is in the way, if its TALL times n is more than": behind each of the 9 parts, as much and 1 more. */
    static void terms2MoreThanTheLine() {
        String[] ends = {"thing 1 0 5 9 0;thing 1 9 5 0 0", "thing 1 5 0 9 0;thing 1 5 9 0 0", "thing 1 0 0 9 0;thing 1 9 9 0 0"};
        for (int way = 0; way < 3; way++) {
            for (int k = 1; k < 9; k++) {
                String wall = ";thing 0 " + (way == 1 ? 5 : k) + " " + (way == 0 ? 5 : k) + " ";
                SeenByOne asMuch = Due.told(ends[way] + wall + (9 - k) + " 9");
                Due.is("as much behind " + k, asMuch.sees(0, 1, 0) + asMuch.sees(1, 0, 0), 2);
                Due.is("as much behind " + k, asMuch.bars(0, 1), -1);
                SeenByOne more = Due.told(ends[way] + wall + (10 - k) + " 0");
                Due.is("1 more behind " + k, more.sees(0, 1, 0) + more.sees(1, 0, 0), 0);
                Due.is("1 more behind " + k, more.bars(0, 1), 2);
            }
        }
    }

    /** All in whole sums: where the line is no whole number high, nothing is lost. */
    static void terms2WholeSums() {
        String halves = "thing 1 0 0 1 0;thing 1 2 0 2 0;";
        Due.is("2 of 3", looks(halves + "thing 0 1 0 1 0", 0, 1), 1);
        Due.is("4 of 3", looks(halves + "thing 0 1 0 2 0", 0, 1), 0);
        String thirds = "thing 1 0 0 0 0;thing 1 3 0 2 0;";
        Due.is("0 of 2", looks(thirds + "thing 0 1 0 0 0", 0, 1), 1);
        Due.is("3 of 2", looks(thirds + "thing 0 1 0 1 0", 0, 1), 0);
        Due.is("3 of 4", looks(thirds + "thing 0 2 0 1 0", 0, 1), 1);
        Due.is("6 of 4", looks(thirds + "thing 0 2 0 2 0", 0, 1), 0);
        Due.is("0 of 0", looks("thing 1 0 0 0 0;thing 1 2 0 0 0;thing 0 1 0 0 9", 0, 1), 1);
        Due.is("2 of 1", looks("thing 1 0 0 0 0;thing 1 2 0 1 0;thing 0 1 0 1 0", 0, 1), 0);
    }

    /** "EYES of the first times (n less k) and HEIGHT of the second times k": a TOWER's a counts for the first. */
    static void terms2EyesOfTheFirstHeightOfTheSecond() {
        String towers = "thing 3 0 0 1 9;thing 3 3 0 1 6;";
        Due.is("21 of 10 * 2 + 1 * 1", looks(towers + "thing 0 1 0 7 0", 0, 1), 1);
        Due.is("24 of 10 * 2 + 1 * 1", looks(towers + "thing 0 1 0 8 0", 0, 1), 0);
        Due.is("12 of 10 * 1 + 1 * 2", looks(towers + "thing 0 2 0 4 0", 0, 1), 1);
        Due.is("15 of 10 * 1 + 1 * 2", looks(towers + "thing 0 2 0 5 0", 0, 1), 0);
        Due.is("9 of 7 * 1 + 1 * 2, back", looks(towers + "thing 0 1 0 3 0", 1, 0), 1);
        Due.is("12 of 7 * 1 + 1 * 2, back", looks(towers + "thing 0 1 0 4 0", 1, 0), 0);
        Due.is("15 of 7 * 2 + 1 * 1, back", looks(towers + "thing 0 2 0 5 0", 1, 0), 1);
        Due.is("18 of 7 * 2 + 1 * 1, back", looks(towers + "thing 0 2 0 6 0", 1, 0), 0);
    }

    /** Every KIND may be in the way: with its TALL, not with its EYES; a TREE in SUMMER alone. */
    static void terms2EachKindInTheWay() {
        int[] inSummer = {0, 0, 1, 0, 0, 0, 1};
        int[] inWinter = {0, 0, 0, 0, 0, 0, 1};
        for (int kind = 0; kind < 7; kind++) {
            String lower = "thing 1 0 0 3 0;thing 1 2 0 3 0;thing " + kind + " 1 0 3 1";
            Due.is("no higher but by a, KIND " + kind, 1 - looks(lower, 0, 1), inSummer[kind]);
            Due.is("in winter, KIND " + kind, 1 - looks(lower + ";summer 0", 0, 1), inWinter[kind]);
            String higher = "thing 1 0 0 3 0;thing 1 2 0 3 0;thing " + kind + " 1 0 4 0";
            Due.is("higher, KIND " + kind, looks(higher, 0, 1), 0);
            Due.is("higher in winter, KIND " + kind, looks(higher + ";summer 0", 0, 1), kind == 2 ? 1 : 0);
        }
    }

    /** "if, besides, its curtain isn't DRAWN and that sight not SHUT": one of them, the other, both. */
    static void terms2SeesIntoIfNeitherDrawnNorShut() {
        SeenByOne x = Due.told("thing 1 0 0 3 0;thing 1 1 0 3 0");
        for (int state = 0; state < 4; state++) {
            x.shut(0, 1, (state & 1) == 1);
            x.draw(0, (state & 2) == 2);
            Due.is("LOOKS INTO", x.sees(0, 1, 0), 1);
            Due.is("SEES INTO", x.sees(0, 1, 1), state == 0 ? 1 : 0);
            Due.is("the other one SEES INTO it all the same", x.sees(1, 0, 1), 1);
        }
    }

    /** "SEERS of a HOUSE: those who SEE INTO it, but TOWERS don't count": none, and as many as there may be. */
    static void terms2SeersNoneToSeven() {
        for (int towers = 0; towers < 8; towers++) {
            SeenByOne x = new SeenByOne();
            for (int n = 0; n < 8; n++) {
                x.thing(n > 0 && n <= towers ? 3 : 1, n % 4, n / 4, 3, 0);
            }
            int seers = 255 & ~((2 << towers) - 1);
            x.show(0, 0);
            Due.is("SEERS with " + towers + " TOWERS", x.seers(0), seers);
            Due.is("said", x.says(0, 1), 7 - towers);
            Due.is("RIGHT with " + (7 - towers) + " SEERS", x.right() & 1, towers == 6 ? 1 : 0);
            Due.is("the TOWERS SEE INTO it", towers == 0 ? 1 : x.sees(1, 0, 1), 1);
        }
    }

    /** "RIGHT: it has just one of them; a SHY one: none": with none, one, two. */
    static void terms2RightByJustOne() {
        int[] kinds = {1, 3, 4, 5};
        for (int kind : kinds) {
            SeenByOne x = Due.told("thing " + kind + " 0 0 3 0;thing 1 1 0 3 0;thing 1 0 1 3 0;shut 0 1;shut 0 2");
            x.show(0, 0);
            Due.is("two SEERS, KIND " + kind, x.right() & 1, 0);
            x.draw(1, true);
            Due.is("one SEER, KIND " + kind, x.right() & 1, kind == 4 ? 0 : 1);
            Due.is("said of a SHY one", kind == 4 ? x.says(0, 4) : 0, 0);
            x.draw(2, true);
            Due.is("none, KIND " + kind, x.right() & 1, kind == 4 ? 1 : 0);
            Due.is("said of a SHY one", kind == 4 ? x.says(0, 4) : 1, 1);
        }
    }

    /** Promises 20 and 21: none, all, and the first of those that aren't. */
    static void promise21FirstOfEach() {
        SeenByOne x = new SeenByOne();
        for (int n = 0; n < 8; n++) {
            x.thing(4, n, 0, 3, 0);
            x.draw(n, true);
        }
        Due.is("right() of all", x.right(), 255);
        Due.is("first() of none", x.first(), -1);
        for (int n = 1; n < 8; n++) {
            x.draw(n, false);
            Due.is("first(), all but " + n + " seen by it", x.first(), 0);
            x.shut(n, 0, true);
            Due.is("first(), 0 is RIGHT again", x.first(), n == 1 ? 2 : 1);
            x.shut(n, 0, false);
            x.draw(n, true);
        }
        x.draw(6, false);
        for (int j = 0; j < 6; j++) {
            x.shut(6, j, true);
        }
        Due.is("first(): the last", x.first(), 7);
        Due.is("right() of all but the last", x.right(), 127);
    }
}
