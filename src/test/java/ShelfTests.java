/** Promises 1 to 8: a new object, and SHELVES. */
final class ShelfTests {
    private ShelfTests() {
    }

    static void promise01NewObject() {
        SeenByOne x = new SeenByOne();
        long[] want = {0, 0, 1, 9, 0, 0, 0, 1, 0};
        for (int what = 0; what < want.length; what++) {
            Due.is("status(" + what + ")", x.status(what), want[what]);
        }
        for (int s = 0; s < 8; s++) {
            Due.is("holds(" + s + ")", x.holds(s), -1);
        }
        Due.is("fault()", x.fault(), -1);
        Due.is("trace(0)", x.trace(0), -1);
        Due.refused(x, 0, 0, 0, 0, 0, 0, 0);
        Due.is("restore()", x.restore(), -6);
    }

    static void promise02Row() {
        SeenByOne x = new SeenByOne();
        for (int sort = 0; sort < 4; sort++) {
            Due.is("row", x.row(sort, sort, 160), 1);
            Due.is("holds", x.holds(sort), 100 + sort);
            Due.is("set the last", x.set(sort, 159, 7), 1);
            Due.is("set beyond", x.set(sort, 160, 7), -5);
        }
        x.set(3, 0, 7);
        Due.is("row anew", x.row(3, 2, 160), 1);
        Due.is("its elements are 0 again", x.element(3, 0), 0);
        Due.is("its elements are 0 again", x.element(3, 159), 0);
        Due.is("row of none", x.row(7, 0, 0), 1);
        Due.is("set in it", x.set(7, 0, 1), -5);
        x.thing(0, 0, 0, 0, 0);
        x.show(6, 0);
        Due.is("row where a THING was", x.row(6, 1, 3), 1);
        Due.is("holds", x.holds(6), 101);
    }

    static void promise02RowRefusals() {
        SeenByOne x = new SeenByOne();
        x.row(0, 0, 2);
        x.set(0, 1, 5);
        Due.is("row(-1, 9, -1)", x.row(-1, 9, -1), -1);
        Due.is("row(8, 0, 1)", x.row(8, 0, 1), -1);
        Due.is("row(0, 9, -1)", x.row(0, 9, -1), -4);
        Due.is("row(0, 1, least)", x.row(0, 1, Integer.MIN_VALUE), -4);
        Due.is("row(0, 4, 161)", x.row(0, 4, 161), -6);
        Due.is("row(0, -1, 1)", x.row(0, -1, 1), -6);
        Due.is("row(0, 3, 161)", x.row(0, 3, 161), -7);
        Due.is("row(0, 3, most)", x.row(0, 3, Integer.MAX_VALUE), -7);
        Due.is("holds(0) is as it was", x.holds(0), 100);
        Due.is("element(0, 1) is as it was", x.element(0, 1), 5);
        Due.refused(x, 2, 0, 0, 2, 0, 2, 2);
    }

    static void promise03SetKeepsTheLowestBits() {
        SeenByOne x = new SeenByOne();
        long[] put = {300, 200, 40000, 65536 + 9, 1L << 31, (5L << 32) + 6, -1};
        long[][] want = {
            {44, -56, 64, 9, 0, 6, -1},
            {300, 200, -25536, 9, 0, 6, -1},
            {300, 200, 40000, 65545, Integer.MIN_VALUE, 6, -1},
            {300, 200, 40000, 65545, 1L << 31, (5L << 32) + 6, -1},
        };
        for (int sort = 0; sort < 4; sort++) {
            x.row(sort, sort, put.length);
            for (int i = 0; i < put.length; i++) {
                Due.is("set", x.set(sort, i, put[i]), 1);
                Due.is("element of SORT " + sort, x.element(sort, i), want[sort][i]);
            }
        }
    }

    static void promise03SetNotInTheLastThing() {
        SeenByOne x = new SeenByOne();
        for (int n = 0; n < 8; n++) {
            x.thing(0, n, 0, 0, 0);
        }
        Due.is("show(0, 7)", x.show(0, 7), 1);
        Due.is("set in THING 7", x.set(0, 0, 1), -2);
        Due.is("ground of THING 7", x.ground(0), -2);
        Due.is("says THING 7", x.says(0, 0), 0);
    }

    static void promise03SetRefusals() {
        SeenByOne x = new SeenByOne();
        x.thing(0, 0, 0, 0, 0);
        x.show(1, 0);
        x.row(0, 0, 3);
        Due.is("set(-1, ..)", x.set(-1, 0, 1), -1);
        Due.is("set(8, ..)", x.set(8, -1, 1), -1);
        Due.is("set in a THING", x.set(1, -1, 1), -2);
        Due.is("set in NOTHING", x.set(2, -1, 1), -3);
        Due.is("set(0, -1, 1)", x.set(0, -1, 1), -5);
        Due.is("set(0, 3, 1)", x.set(0, 3, 1), -5);
        Due.is("set(0, least, 1)", x.set(0, Integer.MIN_VALUE, 1), -5);
        Due.refused(x, 2, 1, 1, 0, 3, 0, 0);
    }

    static void promise04Copy() {
        SeenByOne x = new SeenByOne();
        Due.put(x, 0, 2, 1, 2, 3, 4, 5);
        Due.put(x, 1, 2, 9, 9, 9);
        Due.is("copy", x.copy(0, 1, 3, 1, 2), 1);
        elements(x, 1, 9, 4, 5);
        elements(x, 0, 1, 2, 3, 4, 5);
        Due.is("copy upwards in one ROW", x.copy(0, 0, 0, 1, 4), 1);
        elements(x, 0, 1, 1, 2, 3, 4);
        Due.is("copy downwards in one ROW", x.copy(0, 0, 2, 0, 3), 1);
        elements(x, 0, 2, 3, 4, 3, 4);
        Due.is("copy of none at the ends", x.copy(0, 1, 5, 3, 0), 1);
        Due.is("copy of all", x.copy(0, 0, 0, 0, 5), 1);
        elements(x, 0, 2, 3, 4, 3, 4);
    }

    static void promise04CopyRefusals() {
        SeenByOne x = new SeenByOne();
        x.thing(0, 0, 0, 0, 0);
        x.show(3, 0);
        x.row(0, 0, 3);
        x.row(1, 1, 3);
        x.row(2, 0, 2);
        Due.is("no SHELF q", x.copy(3, 8, 0, 0, -1), -1);
        Due.is("no SHELF p", x.copy(-1, 3, 0, 0, -1), -1);
        Due.is("a THING in p", x.copy(3, 4, 0, 0, -1), -2);
        Due.is("a THING in q", x.copy(4, 3, 0, 0, -1), -2);
        Due.is("two SORTS", x.copy(0, 1, 9, 9, -1), -2);
        Due.is("NOTHING in p", x.copy(4, 1, 9, 9, -1), -3);
        Due.is("NOTHING in q", x.copy(1, 4, 9, 9, -1), -3);
        Due.is("n below 0", x.copy(0, 2, -1, 9, -1), -4);
        Due.is("i below 0", x.copy(0, 2, -1, 0, 1), -5);
        Due.is("j below 0", x.copy(0, 2, 0, -1, 1), -5);
        Due.is("an end not in p", x.copy(2, 0, 1, 0, 2), -5);
        Due.is("an end not in q", x.copy(0, 2, 0, 1, 2), -5);
        Due.is("n far too many", x.copy(0, 2, 1, 1, Integer.MAX_VALUE), -5);
        Due.is("i far too many", x.copy(0, 2, Integer.MAX_VALUE, 0, 1), -5);
        Due.is("none behind the end", x.copy(0, 2, 4, 0, 0), -5);
        Due.is("none behind q's end", x.copy(0, 2, 0, 3, 0), -5);
        Due.refused(x, 2, 3, 2, 1, 8, 0, 0);
    }

    private static void elements(SeenByOne x, int s, long... want) {
        for (int i = 0; i < want.length; i++) {
            Due.is("element(" + s + ", " + i + ")", x.element(s, i), want[i]);
        }
    }

    static void promise05Element() {
        SeenByOne x = new SeenByOne();
        Due.put(x, 0, 3, Long.MIN_VALUE, 8);
        x.thing(0, 0, 0, 3, 0);
        x.show(1, 0);
        Due.is("element(0, 0)", x.element(0, 0), Long.MIN_VALUE);
        Due.is("element(0, 1)", x.element(0, 1), 8);
        Due.is("element(0, 2)", x.element(0, 2), 0);
        Due.is("element(0, -1)", x.element(0, -1), 0);
        Due.is("element of a THING", x.element(1, 0), 0);
        Due.is("element of NOTHING", x.element(2, 0), 0);
        Due.is("element(-1, 0)", x.element(-1, 0), 0);
        Due.is("element(8, 0)", x.element(8, 0), 0);
        x.row(0, 3, 1);
        Due.is("element behind a shorter ROW", x.element(0, 1), 0);
        Due.refused(x, 0, 0, 0, 0, 0, 0, 0);
    }

    static void promise06Show() {
        SeenByOne x = new SeenByOne();
        x.thing(0, 0, 0, 3, 0);
        x.thing(1, 1, 0, 3, 0);
        x.row(0, 0, 1);
        Due.is("show(0, 1)", x.show(0, 1), 1);
        Due.is("holds(0)", x.holds(0), 1);
        Due.is("show(7, 0)", x.show(7, 0), 1);
        Due.is("holds(7)", x.holds(7), 0);
        Due.is("show(0, NONE)", x.show(0, -1), 0);
        Due.is("holds(0)", x.holds(0), -1);
        x.row(0, 0, 1);
        Due.is("show(0, 2)", x.show(0, 2), -1);
        Due.is("show(0, -2)", x.show(0, -2), -1);
        Due.is("show(8, 0)", x.show(8, 0), -1);
        Due.is("show(-1, NONE)", x.show(-1, -1), -1);
        Due.is("holds(0) is as it was", x.holds(0), 100);
        Due.is("show(0, NONE) of a ROW", x.show(0, -1), 0);
        Due.is("set then", x.set(0, 0, 1), -3);
        Due.refused(x, 4, 0, 1, 0, 0, 0, 0);
    }

    static void promise07Holds() {
        SeenByOne x = new SeenByOne();
        for (int n = 0; n < 8; n++) {
            x.thing(0, n, n, 3, 0);
            x.show(n, n);
        }
        Due.is("holds(0)", x.holds(0), 0);
        Due.is("holds(7)", x.holds(7), 7);
        Due.is("holds(8)", x.holds(8), -1);
        Due.is("holds(-1)", x.holds(-1), -1);
        x.row(2, 3, 0);
        Due.is("holds(2)", x.holds(2), 103);
        Due.refused(x, 0, 0, 0, 0, 0, 0, 0);
    }

    private static final String ALL_KINDS = "thing 2 5 5 4 3;thing 6 7 7 4 3;thing 3 0 0 2 5;thing 4 0 1 3 1;"
        + "thing 5 1 0 3 1;thing 1 1 1 3 2;thing 0 9 9 6 2";

    /** By THING, then by KIND it is taken for. */
    private static void said(SeenByOne x, int[][] want) {
        for (int thing = 0; thing < want.length; thing++) {
            Due.is("show", x.show(0, thing), 1);
            for (int kind = 0; kind < 7; kind++) {
                Due.is("THING " + thing + " for KIND " + kind, x.says(0, kind), want[thing][kind]);
            }
        }
    }

    static void promise08Says() {
        SeenByOne x = Due.told(ALL_KINDS);
        said(x, new int[][] {
            {7, -2, 3, -2, -2, -2, -2},
            {7, -2, 3, -2, -2, -2, 3},
            {2, 2, -2, 7, -2, -2, -2},
            {3, 1, -2, -2, 0, -2, -2},
            {3, 2, -2, -2, -2, 0, -2},
            {3, 1, -2, -2, -2, -2, -2},
            {6, -2, -2, -2, -2, -2, -2},
        });
        x.ask(0, 0);
        x.draw(5, true);
        said(x, new int[][] {
            {0, -2, 0, -2, -2, -2, -2},
            {7, -2, 3, -2, -2, -2, 3},
            {2, 1, -2, 7, -2, -2, -2},
            {3, 0, -2, -2, 1, -2, -2},
            {3, 1, -2, -2, -2, 0, -2},
            {3, 1, -2, -2, -2, -2, -2},
            {6, -2, -2, -2, -2, -2, -2},
        });
    }

    static void promise08SaysRefusals() {
        SeenByOne x = Due.told(ALL_KINDS);
        x.row(0, 0, 1);
        x.show(1, 3);
        Due.is("says(-1, 0)", x.says(-1, 0), -1);
        Due.is("says(8, 0)", x.says(8, 0), -1);
        Due.is("a ROW, no KIND", x.says(0, 7), -1);
        Due.is("NOTHING, no KIND", x.says(2, -1), -1);
        Due.is("a ROW", x.says(0, 0), -2);
        Due.is("a SHY one for a TOWER", x.says(1, 3), -2);
        Due.is("a SHY one for a TREE", x.says(1, 2), -2);
        Due.is("NOTHING", x.says(2, 0), -3);
        Due.refused(x, 4, 3, 1, 0, 0, 0, 0);
    }
}
