/** Promises 37 and 38: YEARS in truth, DRAWS. */
final class TruthTests {
    private TruthTests() {
    }

    /** From SEED 1 the DRAWS below 3 are 2 0 0 0 0 1 2 2 2 0 1 2. */
    static void promise37YearsOfTrees() {
        SeenByOne x = Due.told("thing 2 0 0 1 0;thing 0 5 5 5 5;thing 6 1 1 2 0;thing 2 2 2 20 0");
        Due.is("years(1)", x.years(1), 0);
        heights(x, 3, 5, 2, 20);
        Due.is("SUMMER", x.status(2), 0);
        Due.is("SEED", x.status(7), 662824084);
        Due.is("years(3)", x.years(3), 0);
        heights(x, 5, 5, 5, 20);
        Due.is("SUMMER", x.status(2), 1);
        Due.is("SEED", x.status(7), 836760821);
        x.height(0, 19);
        x.seed(1);
        x.years(1);
        heights(x, 20, 5, 5, 20);
        Due.is("years(30)", x.years(30), 0);
        heights(x, 20, 5, 20, 20);
        Due.is("FINES", x.status(6), 0);
    }

    private static void heights(SeenByOne x, int... want) {
        for (int thing = 0; thing < want.length; thing++) {
            Due.is("HEIGHT of " + thing, x.thingOf(thing, 3), want[thing]);
        }
    }

    /** The TREE is between 0 and 1 in summer; the BLIND one is never RIGHT. */
    static void promise37YearsOfFines() {
        SeenByOne x = Due.told("thing 1 0 0 3 0;thing 1 2 0 3 0;thing 2 1 0 4 9;thing 5 9 9 0 0;far 2");
        Due.is("right()", x.right(), 0);
        Due.is("years(1): to winter", x.years(1), 1);
        Due.is("FINES", x.status(6), 1);
        Due.is("years(1): to SUMMER", x.years(1), 3);
        Due.is("FINES", x.status(6), 1 + 3);
        Due.is("years(5)", x.years(5), 1 + 3 + 1 + 3 + 1);
        Due.is("FINES", x.status(6), 4 + 9);
        Due.is("SUMMER", x.status(2), 0);
        Due.is("years(30)", x.years(30), 15 * 3 + 15);
        Due.is("FINES", x.status(6), 13 + 60);
        SeenByOne y = Due.told("thing 4 0 0 3 0;thing 4 2 0 3 0;thing 6 1 0 3 0");
        Due.is("seen by one each", y.right(), 0);
        Due.is("the FIR grows between the SHY ones at once", y.years(2), 0);
        SeenByOne z = Due.told("thing 4 0 0 3 0;thing 4 2 0 3 0;thing 6 1 0 3 0");
        z.seed(1103527590);
        Due.is("or later: DRAWS 0 0 0 0 1", z.years(6), 4 * 2);
    }

    static void promise37YearsRefusals() {
        SeenByOne x = Due.told("thing 2 0 0 1 0;thing 5 1 1 1 1");
        Due.is("years(0)", x.years(0), -6);
        Due.is("years(-1)", x.years(-1), -6);
        Due.is("years(31)", x.years(31), -6);
        Due.is("SUMMER", x.status(2), 1);
        Due.is("SEED", x.status(7), 1);
        Due.is("FINES", x.status(6), 0);
        Due.refused(x, 0, 0, 0, 0, 0, 3, 0);
    }

    static void promise38Seed() {
        SeenByOne x = new SeenByOne();
        Due.is("seed(7)", x.seed(7), 1);
        Due.is("seed(least)", x.seed(Integer.MIN_VALUE), 7);
        Due.is("seed(most)", x.seed(Integer.MAX_VALUE), Integer.MIN_VALUE);
        Due.is("seed(0)", x.seed(0), Integer.MAX_VALUE);
        Due.is("SEED", x.status(7), 0);
        x.thing(2, 0, 0, 1, 0);
        x.years(1);
        Due.is("SEED behind a DRAW", x.status(7), 12345);
        Due.is("upper 16 bits 0", x.thingOf(0, 3), 1);
        x.seed(-1770082073);
        x.years(1);
        Due.is("SEED", x.status(7), 662824084);
        x.seed(267834847);
        x.years(1);
        Due.is("HEIGHT", x.thingOf(0, 3), 2);
        Due.refused(x, 0, 0, 0, 0, 0, 0, 0);
    }
}
