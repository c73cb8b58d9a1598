/** Promises 17 to 21: who LOOKS INTO whom, what is in the way, SEERS, who is RIGHT. */
final class SightTests {
    private SightTests() {
    }

    /** Whether HOUSE 0 and HOUSE 1 LOOK INTO each other, and what is in the way. */
    private static void looks(String text, int there, int back, int barThere, int barBack) {
        SeenByOne x = Due.told(text);
        Due.is("sees(0, 1, 0) with " + text, x.sees(0, 1, 0), there);
        Due.is("sees(1, 0, 0) with " + text, x.sees(1, 0, 0), back);
        Due.is("sees(0, 1, 1) with " + text, x.sees(0, 1, 1), there);
        Due.is("sees(1, 0, 1) with " + text, x.sees(1, 0, 1), back);
        Due.is("bars(0, 1) with " + text, x.bars(0, 1), barThere);
        Due.is("bars(1, 0) with " + text, x.bars(1, 0), barBack);
    }

    static void promise17SeesOverWalls() {
        String six = "thing 1 0 0 6 0;thing 1 6 0 0 0;";
        looks(six + "thing 0 2 0 4 0", 1, 1, -1, -1);
        looks(six + "thing 0 2 0 5 0", 0, 0, 2, 2);
        looks(six + "thing 0 5 0 1 0", 1, 1, -1, -1);
        looks(six + "thing 0 5 0 2 0", 0, 0, 2, 2);
        looks(six + "thing 0 7 0 20 0", 1, 1, -1, -1);
        looks(six + "thing 0 3 1 20 0", 1, 1, -1, -1);
        String down = "thing 1 4 9 9 0;thing 1 4 0 0 0;";
        looks(down + "thing 0 4 3 3 0", 1, 1, -1, -1);
        looks(down + "thing 0 4 3 4 0", 0, 0, 2, 2);
        looks(down + "thing 0 4 8 9 0", 0, 0, 2, 2);
        looks(down + "thing 0 4 8 8 0", 1, 1, -1, -1);
    }

    static void promise17SeesAslant() {
        String slant = "thing 1 8 2 2 0;thing 1 2 5 5 0;";
        looks(slant + "thing 0 6 3 3 0", 1, 1, -1, -1);
        looks(slant + "thing 0 6 3 4 0", 0, 0, 2, 2);
        looks(slant + "thing 0 4 4 4 0", 1, 1, -1, -1);
        looks(slant + "thing 0 4 4 5 0", 0, 0, 2, 2);
        looks(slant + "thing 0 5 3 20 0", 1, 1, -1, -1);
        looks(slant + "thing 0 5 4 20 0", 1, 1, -1, -1);
        looks(slant + "thing 0 0 6 20 0", 1, 1, -1, -1);
        looks("thing 1 0 0 1 0;thing 1 9 9 1 0;thing 0 4 4 1 0", 1, 1, -1, -1);
        looks("thing 1 0 0 1 0;thing 1 9 9 1 0;thing 0 4 4 2 0", 0, 0, 2, 2);
        looks("thing 1 0 9 1 0;thing 1 9 0 1 0;thing 0 4 5 2 0", 0, 0, 2, 2);
        looks("thing 1 0 0 1 0;thing 1 9 8 1 0;thing 0 4 4 20 0", 1, 1, -1, -1);
    }

    static void promise17SeesByKinds() {
        looks("thing 3 0 0 0 6;thing 1 6 0 0 0;thing 0 2 0 4 0", 1, 0, -1, 2);
        looks("thing 3 0 0 0 6;thing 3 6 0 0 3;thing 0 2 0 4 0", 1, 0, -1, 2);
        looks("thing 4 0 0 6 9;thing 1 6 0 0 9;thing 0 2 0 5 9", 0, 0, 2, 2);
        looks("thing 5 0 0 6 9;thing 1 6 0 0 9;thing 0 2 0 4 9", 0, 1, -1, -1);
        looks("thing 5 0 0 6 9;thing 5 1 0 0 9", 0, 0, -1, -1);
        looks("thing 1 0 0 6 0;thing 1 6 0 0 0;thing 2 2 0 4 1", 0, 0, 2, 2);
        looks("thing 1 0 0 6 0;thing 1 6 0 0 0;thing 2 2 0 4 0", 1, 1, -1, -1);
        looks("thing 1 0 0 6 0;thing 1 6 0 0 0;thing 2 2 0 20 9;summer 0", 1, 1, -1, -1);
        looks("thing 1 0 0 6 0;thing 1 6 0 0 0;thing 6 2 0 4 1;summer 0", 0, 0, 2, 2);
        looks("thing 1 0 0 6 0;thing 1 6 0 0 0;thing 6 2 0 4 0;summer 0", 1, 1, -1, -1);
        looks("thing 1 0 0 6 0;thing 1 6 0 0 0;thing 3 2 0 4 9", 1, 1, -1, -1);
        looks("thing 1 0 0 6 0;thing 1 6 0 0 0;thing 5 2 0 5 0", 0, 0, 2, 2);
    }

    static void promise17SeesAsFarAsFar() {
        looks("thing 1 0 0 3 0;thing 1 5 4 3 0;far 5", 1, 1, -1, -1);
        looks("thing 1 0 0 3 0;thing 1 5 4 3 0;far 4", 0, 0, -1, -1);
        looks("thing 1 1 9 3 0;thing 1 2 2 3 0;far 7", 1, 1, -1, -1);
        looks("thing 1 1 9 3 0;thing 1 2 2 3 0;far 6", 0, 0, -1, -1);
        looks("thing 1 0 0 3 0;thing 1 4 0 3 0;thing 0 2 0 9 0;far 1", 0, 0, 2, 2);
    }

    static void promise17SeesUnlessShutOrDrawn() {
        SeenByOne x = Due.told("thing 1 0 0 3 0;thing 1 1 0 3 0;thing 1 0 1 3 0;shut 0 1;draw 2");
        int[][] looks = {{-6, 1, 1}, {1, -6, 1}, {1, 1, -6}};
        int[][] sees = {{-6, 0, 1}, {1, -6, 1}, {0, 0, -6}};
        for (int i = 0; i < 3; i++) {
            for (int j = 0; j < 3; j++) {
                Due.is("sees(" + i + ", " + j + ", 0)", x.sees(i, j, 0), looks[i][j]);
                Due.is("sees(" + i + ", " + j + ", 1)", x.sees(i, j, 1), sees[i][j]);
            }
        }
    }

    static void promise17SeesRefusals() {
        SeenByOne x = Due.told("thing 1 0 0 3 0;thing 1 1 0 3 0;thing 2 0 1 3 0");
        Due.is("no THING i, no HOUSE j", x.sees(3, 2, 2), -1);
        Due.is("no HOUSE i, no THING j", x.sees(2, -1, 2), -1);
        Due.is("no HOUSE j", x.sees(0, 2, 2), -2);
        Due.is("no HOUSE i", x.sees(2, 0, 2), -2);
        Due.is("no HOUSE, the same", x.sees(2, 2, 0), -2);
        Due.is("another what, the same", x.sees(0, 0, 2), -5);
        Due.is("another what", x.sees(0, 1, -1), -5);
        Due.is("the same", x.sees(1, 1, 1), -6);
        Due.refused(x, 2, 3, 0, 0, 2, 1, 0);
    }

    static void promise18BarsFirstByNumber() {
        SeenByOne x = Due.told("thing 1 0 0 2 0;thing 1 9 0 2 0;thing 0 6 0 3 0;thing 0 3 0 4 0;thing 2 4 0 0 5");
        Due.is("bars(0, 1)", x.bars(0, 1), 2);
        Due.is("bars(1, 0)", x.bars(1, 0), 2);
        x.height(2, 2);
        Due.is("bars(0, 1) over a lower one", x.bars(0, 1), 3);
        Due.is("bars(1, 0) over a lower one", x.bars(1, 0), 3);
        x.height(3, 2);
        Due.is("bars(0, 1) over two lower ones", x.bars(0, 1), 4);
        x.ask(0, 0);
        Due.is("bars(0, 1) over all", x.bars(0, 1), -1);
        Due.refused(x, 0, 0, 0, 0, 0, 0, 0);
    }

    static void promise18BarsFirstByNumberAslant() {
        SeenByOne x = Due.told("thing 1 0 0 0 0;thing 0 1 0 0 0;thing 0 2 0 0 0;thing 1 4 4 0 0;thing 0 2 2 1 0;thing 0 1 1 1 0");
        Due.is("bars(0, 3), a later one is nearer", x.bars(0, 3), 4);
        Due.is("bars(3, 0), the first is nearer", x.bars(3, 0), 4);
        Due.is("they don't see, either", x.sees(0, 3, 0) + x.sees(3, 0, 0), 0);
        x.height(4, 0);
        Due.is("bars(0, 3), just the later one", x.bars(0, 3), 5);
        Due.is("bars(3, 0), just the later one", x.bars(3, 0), 5);
    }

    static void promise18BarsHoweverFar() {
        SeenByOne x = Due.told("thing 5 0 0 3 9;thing 1 9 0 3 0;thing 0 3 0 4 0;far 1;draw 1;shut 0 1");
        Due.is("a BLIND one's", x.bars(0, 1), 2);
        Due.is("a DRAWN one's", x.bars(1, 0), 2);
        x.height(2, 3);
        Due.is("over it", x.bars(0, 1), -1);
        Due.is("a BLIND one LOOKS INTO none all the same", x.sees(0, 1, 0), 0);
    }

    static void promise18BarsRefusals() {
        SeenByOne x = Due.told("thing 1 0 0 3 0;thing 1 9 0 3 0;thing 0 3 0 4 0");
        Due.is("no THING", x.bars(3, 2), -11);
        Due.is("no THING j", x.bars(2, -1), -11);
        Due.is("no HOUSE, the same", x.bars(2, 2), -12);
        Due.is("no HOUSE j", x.bars(0, 2), -12);
        Due.is("the same", x.bars(1, 1), -16);
        Due.refused(x, 2, 2, 0, 0, 0, 1, 0);
    }

    private static final String FIVE = "thing 0 9 9 1 1;thing 1 0 0 3 0;thing 1 1 0 3 0;thing 3 0 1 3 0;thing 4 1 1 3 0;"
        + "thing 5 0 2 3 0";

    static void promise19Seers() {
        SeenByOne x = Due.told(FIVE);
        int[] want = {-2, 4 + 16, 2 + 16, 2 + 4 + 16, 2 + 4, 2 + 4 + 16};
        for (int thing = 0; thing < want.length; thing++) {
            Due.is("seers(" + thing + ")", x.seers(thing), want[thing]);
        }
        x.draw(2, true);
        x.shut(1, 3, true);
        int[] then = {-2, 16, 2 + 16, 16, 2, 2 + 16};
        for (int thing = 0; thing < then.length; thing++) {
            Due.is("seers(" + thing + ") then", x.seers(thing), then[thing]);
        }
        Due.is("seers(6)", x.seers(6), -1);
        Due.is("seers(-1)", x.seers(-1), -1);
        Due.refused(x, 2, 2, 0, 0, 0, 0, 0);
    }

    static void promise20Right() {
        SeenByOne x = Due.told(FIVE);
        Due.is("right()", x.right(), 0);
        x.draw(2, true);
        Due.is("right() with 2 DRAWN", x.right(), 2);
        x.shut(1, 3, true);
        Due.is("right() with 1 into 3 SHUT", x.right(), 2 + 8);
        x.draw(1, true);
        Due.is("right(): a SHY one seen by none", x.right(), 2 + 4 + 8 + 16 + 32);
        x.draw(4, true);
        Due.is("right(): others seen by none aren't", x.right(), 16);
    }

    static void promise20RightOfNone() {
        SeenByOne x = new SeenByOne();
        Due.is("right()", x.right(), 0);
        Due.is("first()", x.first(), -1);
        Due.tell(x, "thing 0 0 0 1 1;thing 2 1 1 1 1;thing 6 2 2 2 2");
        Due.is("right() without HOUSES", x.right(), 0);
        Due.is("first() without HOUSES", x.first(), -1);
    }

    static void promise21First() {
        SeenByOne x = Due.told(FIVE);
        Due.is("first()", x.first(), 1);
        x.draw(2, true);
        Due.is("first() with 2 DRAWN", x.first(), 2);
        x.shut(4, 2, true);
        Due.is("first() with 4 into 2 SHUT", x.first(), 3);
        x.draw(1, true);
        x.shut(4, 2, false);
        Due.is("first(): all are RIGHT", x.first(), -1);
    }
}
