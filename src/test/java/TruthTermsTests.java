/** Terms, 3., what is done in truth: YEARS, DRAWS, SHELVES, ROWS, ACTS; and 'What it is': how many calls. */
final class TruthTermsTests {
    private static final int MOST = Integer.MAX_VALUE;
    private static final int LEAST = Integer.MIN_VALUE;

    /** By what the next DRAW below 3 is. */
    private static final int[] SEEDS = {0, -1, LEAST};

    private TruthTermsTests() {
    }

    /** "each TREE (and FIR) by numbers grows by a DRAW below 3 (20 at most)" */
    static void terms3TreesGrowToTwenty() {
        for (int draw = 0; draw < 3; draw++) {
            for (int height = 0; height <= 20; height++) {
                for (int kind = 0; kind < 7; kind++) {
                    SeenByOne x = Due.told("thing " + kind + " 5 5 " + height + " 3");
                    x.seed(SEEDS[draw]);
                    x.years(1);
                    boolean isTree = kind == 2 || kind == 6;
                    int want = isTree ? Math.min(20, height + draw) : height;
                    Due.is("HEIGHT " + height + " of KIND " + kind + " behind DRAW " + draw, x.thingOf(0, 3), want);
                    Due.is("a DRAW is made at 20, too", x.status(7) == SEEDS[draw] ? 0 : 1, isTree ? 1 : 0);
                }
            }
        }
    }

    /** "by numbers": of eight, the first and the last among them. From SEED 1 the DRAWS are 2 0 0 0 0 1 2 2. */
    static void terms3TreesGrowByNumbers() {
        int[] want = {2, 0, 0, 0, 0, 1, 2, 2};
        SeenByOne x = new SeenByOne();
        for (int n = 0; n < 8; n++) {
            x.thing(n % 2 == 0 ? 2 : 6, 9 - n, n, 0, 0);
        }
        Due.is("years(1)", x.years(1), 0);
        for (int n = 0; n < 8; n++) {
            Due.is("HEIGHT of " + n, x.thingOf(n, 3), want[n]);
        }
        Due.is("SEED", x.status(7), -1661227463);
    }

    /** What isn't there any more grows no more. */
    static void terms3NoTreesNoDraws() {
        SeenByOne x = new SeenByOne();
        Due.is("years(30) of nothing", x.years(30), 0);
        Due.is("SEED", x.status(7), 1);
        x.image();
        x.thing(2, 0, 0, 0, 0);
        x.thing(6, 1, 0, 0, 0);
        x.restore();
        x.years(1);
        Due.is("SEED", x.status(7), 1);
        x.thing(0, 0, 0, 0, 0);
        x.years(1);
        Due.is("SEED", x.status(7), 1);
        Due.is("HEIGHT", x.thingOf(0, 3), 0);
    }

    /** Promise 37: "n YEARS (1 to 30)"; "SUMMER is the other" */
    static void promise37YearsOneToThirty() {
        for (int n = 0; n <= 31; n++) {
            SeenByOne x = Due.told("thing 5 0 0 3 0;thing 4 9 9 3 0;far 8");
            boolean may = n >= 1 && n <= 30;
            Due.is("years(" + n + ")", x.years(n), may ? n : -6);
            Due.is("SUMMER", x.status(2), may && n % 2 == 1 ? 0 : 1);
            Due.is("FINES", x.status(6), may ? n : 0);
        }
    }

    /** "FINES: for each HOUSE that isn't RIGHT then one more": none, and as many as there may be; they add up. */
    static void terms3FinesNoneAndMost() {
        SeenByOne right = Due.told("thing 1 0 0 3 0;thing 1 1 0 3 0;thing 0 5 5 5 5");
        Due.is("none", right.years(30), 0);
        SeenByOne x = new SeenByOne();
        for (int n = 0; n < 8; n++) {
            x.thing(5, n, 0, 3, 0);
        }
        Due.is("most", x.years(30), 240);
        Due.is("FINES", x.status(6), 240);
        Due.is("most", x.years(30), 240);
        Due.is("FINES", x.status(6), 480);
        Due.is("a single YEAR", x.years(1), 8);
        Due.is("FINES", x.status(6), 488);
    }

    /** "isn't RIGHT then": behind the growth, in the other season. */
    static void terms3FinesOfTheNewSeason() {
        SeenByOne x = Due.told("thing 1 0 0 3 0;thing 1 2 0 3 0;thing 2 1 0 3 1");
        Due.is("not RIGHT in SUMMER", x.right(), 0);
        Due.is("RIGHT in winter", x.years(1), 0);
        Due.is("not RIGHT in SUMMER", x.years(1), 2);
        SeenByOne y = Due.told("thing 1 0 0 3 0;thing 1 2 0 3 0;thing 6 1 0 3 0");
        y.seed(SEEDS[0]);
        Due.is("the FIR hasn't grown", y.years(1), 0);
        y.seed(SEEDS[1]);
        Due.is("the FIR has grown by 1", y.years(1), 2);
    }

    /** "SEED becomes SEED times 1103515245, and 12345 (an int, wrapping); its upper 16 bits, no sign" */
    static void terms3DrawWraps() {
        int[] seeds = {1, 0, -1, MOST, LEAST};
        int[] next = {1103527590, 12345, -1103502900, 1043980748, LEAST + 12345};
        int[] draws = {2, 0, 1, 2, 2};
        for (int n = 0; n < seeds.length; n++) {
            SeenByOne x = Due.told("thing 2 0 0 5 0");
            x.seed(seeds[n]);
            x.years(1);
            Due.is("SEED behind " + seeds[n], x.status(7), next[n]);
            Due.is("HEIGHT behind " + seeds[n], x.thingOf(0, 3), 5 + draws[n]);
        }
    }

    /** "SHELVES 0 to 7 hold NOTHING (at first), a ROW, or a THING." */
    static void terms3ShelvesZeroToSeven() {
        SeenByOne x = Due.told("thing 1 0 0 3 0");
        for (int s = 0; s < 8; s++) {
            Due.is("at first", x.holds(s), -1);
            Due.is("row", x.row(s, s % 4, 1), 1);
            Due.is("a ROW", x.holds(s), 100 + s % 4);
            Due.is("set", x.set(s, 0, s + 1), 1);
        }
        for (int s = 0; s < 8; s++) {
            Due.is("each has its own", x.element(s, 0), s + 1);
            Due.is("show", x.show(s, 0), 1);
            Due.is("a THING", x.holds(s), 0);
            Due.is("its ROW is gone", x.element(s, 0), 0);
            Due.is("show NONE", x.show(s, -1), 0);
            Due.is("NOTHING", x.holds(s), -1);
        }
        int[] none = {-1, 8, MOST, LEAST};
        for (int s : none) {
            Due.is("holds(" + s + ")", x.holds(s), -1);
            Due.is("element(" + s + ", 0)", x.element(s, 0), 0);
            Due.is("row(" + s + ", 0, 1)", x.row(s, 0, 1), -1);
            Due.is("show(" + s + ", 0)", x.show(s, 0), -1);
        }
    }

    /** "A ROW has a SORT .. and 0 to 160 elements, 0 at first" */
    static void terms3RowOfNoneTo160Elements() {
        int[] sizes = {160, 0, 1, 159, 160};
        SeenByOne x = new SeenByOne();
        for (int n : sizes) {
            Due.is("row(0, 3, " + n + ")", x.row(0, 3, n), 1);
            int[] places = {0, n - 1, n, 159, 160};
            for (int i : places) {
                Due.is("0 at first: element(0, " + i + ") of " + n, x.element(0, i), 0);
                boolean there = i >= 0 && i < n;
                Due.is("set(0, " + i + ", 7) of " + n, x.set(0, i, 7), there ? 1 : -5);
                Due.is("element(0, " + i + ") of " + n, x.element(0, i), there ? 7 : 0);
                if (there) {
                    x.set(0, i, 0);
                }
            }
            for (int i = 0; i < n && i < 3; i++) {
                x.set(0, i, 9);
            }
        }
    }

    private static void kept(int sort, long put, long element) {
        SeenByOne x = new SeenByOne();
        x.row(0, sort, 1);
        Due.is("set " + put, x.set(0, 0, put), 1);
        Due.is("SORT " + sort + " keeps of " + put, x.element(0, 0), element);
    }

    /** "what is put in keeps its lowest bits": the last that fits, the first that doesn't, on both sides. */
    static void terms3LowestBits() {
        for (int sort = 0; sort < 3; sort++) {
            int bits = 8 << sort;
            long most = (1L << bits - 1) - 1;
            long least = -1 - most;
            kept(sort, most, most);
            kept(sort, most + 1, least);
            kept(sort, least, least);
            kept(sort, least - 1, most);
            kept(sort, 2 * most + 1, -1);
            kept(sort, 2 * most + 2, 0);
            kept(sort, Long.MAX_VALUE, -1);
            kept(sort, Long.MIN_VALUE, 0);
        }
        kept(3, Long.MAX_VALUE, Long.MAX_VALUE);
        kept(3, Long.MIN_VALUE, Long.MIN_VALUE);
    }

    /** Promise 4: "n of them, come .. (as they were ahead)": none, one, all of 160, over one another. */
    static void promise04CopyNoneToAll() {
        SeenByOne x = new SeenByOne();
        x.row(0, 1, 160);
        x.row(1, 1, 160);
        x.row(2, 1, 0);
        for (int i = 0; i < 160; i++) {
            x.set(0, i, i + 1);
        }
        Due.is("all", x.copy(0, 1, 0, 0, 160), 1);
        Due.is("the first", x.element(1, 0), 1);
        Due.is("the last", x.element(1, 159), 160);
        Due.is("one more", x.copy(0, 1, 0, 0, 161), -5);
        Due.is("none, at the end", x.copy(0, 1, 160, 160, 0), 1);
        Due.is("none of none", x.copy(2, 2, 0, 0, 0), 1);
        Due.is("one of none", x.copy(2, 1, 0, 0, 1), -5);
        Due.is("one to none", x.copy(1, 2, 0, 0, 1), -5);
        Due.is("the last one, to the first", x.copy(0, 1, 159, 0, 1), 1);
        Due.is("the first", x.element(1, 0), 160);
        Due.is("the next", x.element(1, 1), 2);
        Due.is("upwards over one another", x.copy(0, 0, 0, 1, 159), 1);
        Due.is("downwards over one another", x.copy(1, 1, 1, 0, 159), 1);
        for (int i = 0; i < 160; i += 53) {
            Due.is("moved upwards", x.element(0, i), i == 0 ? 1 : i);
            Due.is("moved downwards", x.element(1, i), i == 159 ? 160 : i + 2);
        }
    }

    /** What the BODIES come to, for THING 7 with a 9; ints wrap here as they do there. */
    private static int acted(int kind, int act, int x) {
        int[] stands = {x + 7, x + 16, x + 7, x + 16, x + 9, x + 16, (x + 7) * 2};
        int[] looks = {(x + 7) * 2, (x + 16) * 2, (x + 7) * 6, (x + 17) * 2, (x + 9) * 2, (x + 16) * 2, (x - 2) * 12};
        int[] standsLess = {x - 2, x + 7, x - 2, x + 7, x, x + 7, (x - 2) * 2};
        int hides = looks[kind] ^ standsLess[kind];
        int[] ofActs = {stands[kind], looks[kind], kind == 4 ? -hides : kind == 5 ? hides ^ 5 : hides};
        return ofActs[act];
    }

    /** "ACTS of THINGS, with x (wrapping)": each KIND, each ACT, at both ends of the ints. */
    static void terms3ActsWrap() {
        int[] xs = {MOST, MOST - 7, MOST - 15, MOST - 16, LEAST, LEAST + 2, LEAST + 9, MOST / 2, LEAST / 2, MOST / 12, 0, -1};
        for (int kind = 0; kind < 7; kind++) {
            SeenByOne x = new SeenByOne();
            for (int n = 0; n < 7; n++) {
                x.thing(0, n, 0, 0, 0);
            }
            x.thing(kind, 7, 0, 0, 9);
            for (int act = 0; act < 3; act++) {
                for (int v : xs) {
                    Due.is("KIND " + kind + ", act(7, " + act + ", " + v + ")", x.act(7, act, v), acted(kind, act, v));
                }
            }
        }
    }

    /** SHY's "-super.hides(x)" of the least int is the least int. */
    static void terms3ActsWrapTheLeast() {
        SeenByOne x = Due.told("thing 4 0 0 0 2");
        Due.is("act(0, 2, most - 3)", x.act(0, 2, MOST - 3), LEAST);
    }

    /** "m the number, k its a": THING 0 with a 0. */
    static void terms3ActsOfTheFirstThing() {
        int[][] want = {{5, 10, 15}, {5, 10, 15}, {5, 30, 27}, {5, 12, 9}, {5, 10, -15}, {5, 10, 10}, {10, 60, 54}};
        for (int kind = 0; kind < 7; kind++) {
            SeenByOne x = new SeenByOne();
            x.thing(kind, 0, 0, 9, 0);
            for (int act = 0; act < 3; act++) {
                Due.is("KIND " + kind + ", act(0, " + act + ", 5)", x.act(0, act, 5), want[kind][act]);
            }
        }
    }

    /** Promise 39: "0, and no TRACE then: no such THING, act." */
    static void promise39ActOfNoThingNoAct() {
        int[][] none = {{-1, 0}, {1, 0}, {8, 0}, {MOST, 0}, {LEAST, 0}, {0, -1}, {0, 3}, {0, MOST}, {0, LEAST}, {1, 3}};
        SeenByOne x = Due.told("thing 4 0 0 3 2");
        for (int[] of : none) {
            Due.is("act(0, 2, 3)", x.act(0, 2, 3), -(10 ^ 3));
            Due.is("its TRACE", x.trace(0), 50);
            Due.is("act(" + of[0] + ", " + of[1] + ", 3)", x.act(of[0], of[1], 3), 0);
            Due.is("no TRACE", x.trace(0), -1);
            Due.is("no bodies", x.status(8), 0);
        }
        Due.is("act(0, 0, 3) of none", new SeenByOne().act(0, 0, 3), 0);
        Due.refused(x, 0, 0, 0, 0, 0, 0, 0);
    }

    /** Promise 40: "THE TRACE's i-th body. NONE: none such."; the longest ACT has 9, the shortest 1. */
    static void promise40TraceFirstAndLast() {
        SeenByOne x = Due.told("thing 4 0 0 3 2;thing 0 1 1 1 1");
        int[] longest = {50, 12, 11, 51, 20, 10, 51, 20, 10};
        x.act(0, 2, 3);
        for (int i = -1; i <= 21; i++) {
            Due.is("trace(" + i + ")", x.trace(i), i >= 0 && i < 9 ? longest[i] : -1);
        }
        Due.is("bodies", x.status(8), 9);
        x.act(1, 0, 3);
        Due.is("trace(0)", x.trace(0), 10);
        Due.is("trace(1)", x.trace(1), -1);
        Due.is("bodies", x.status(8), 1);
        Due.is("trace(least)", x.trace(LEAST), -1);
        Due.is("trace(most)", x.trace(MOST), -1);
    }

    /** Promise 43: "NONE for another what." */
    static void promise43StatusOfAnotherWhat() {
        SeenByOne x = Due.told("thing 1 0 0 3 2");
        int[] none = {-1, 9, 10, 18, 19, MOST, LEAST};
        for (int what : none) {
            Due.is("status(" + what + ")", x.status(what), -1);
        }
        int[] counts = {1, 1, 1, 9, 0, 0, 0, 1, 0};
        for (int what = 0; what < 9; what++) {
            Due.is("status(" + what + ")", x.status(what), counts[what]);
        }
        Due.refused(x, 0, 0, 0, 0, 0, 0, 0);
    }

    /** "An object is used for at most 512 calls": the last of them is answered as every other one. */
    static void promise43StatusBehind511Refusals() {
        SeenByOne x = new SeenByOne();
        for (int call = 0; call < 511; call++) {
            Due.is("row(8, 0, 0)", x.row(8, 0, 0), -1);
        }
        Due.is("the 512th call", x.status(11), 511);
    }

    /** The dearest calls, as often as there may be calls. */
    static void promise43CallsOf512() {
        SeenByOne x = Due.told("thing 1 0 0 3 1;thing 1 3 0 3 1;thing 2 1 0 2 2;thing 4 3 3 3 1;thing 3 0 3 2 4;thing 6 2 2 3 3");
        Due.put(x, 0, 3, "far 9;summer 1;draw 1;shut 1 3");
        int newly = x.newly(4);
        int both = x.curtains(3);
        for (int call = 39; call + 4 <= 512; call += 4) {
            Due.is("newly(4)", x.newly(4), newly);
            Due.is("curtains(3)", x.curtains(3), both);
            Due.is("ground(0)", x.ground(0), 4);
            Due.is("opens()", x.opens(), 2);
        }
    }

    /** What one object is told, another one doesn't know. */
    static void promise01NewObjectAmongOthers() {
        SeenByOne x = Due.told("thing 2 0 0 3 2;thing 4 1 0 3 1;far 2;summer 0;draw 1");
        Due.put(x, 0, 0, "far 0");
        x.ground(0);
        x.years(1);
        x.act(1, 2, 3);
        x.image();
        SeenByOne y = new SeenByOne();
        Whole.same("a new object", y, new SeenByOne());
        Due.refused(y, 0, 0, 0, 0, 0, 0, 0);
        Due.is("THINGS", y.status(0), 0);
        Due.is("SUMMER", y.status(2), 1);
        Due.is("SEED", y.status(7), 1);
        Due.is("no IMAGE", y.restore(), -6);
        Due.is("the other one's", x.restore(), 2);
    }
}
