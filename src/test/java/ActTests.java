/** Promises 39 and 40: ACTS, THE TRACE. */
final class ActTests {
    private ActTests() {
    }

    /** The THING has number 3 and a 2, so that m and k differ. */
    private static SeenByOne third(int kind) {
        SeenByOne x = Due.told("thing 0 0 0 1 1;thing 0 1 0 1 1;thing 0 2 0 1 1");
        Due.is("thing", x.thing(kind, 3, 0, 7, 2), 3);
        return x;
    }

    private static void act(int kind, int act, int answer, int... bodies) {
        SeenByOne x = third(kind);
        String call = "KIND " + kind + " act " + act;
        Due.is(call, x.act(3, act, 5), answer);
        for (int i = 0; i < bodies.length; i++) {
            Due.is(call + " trace(" + i + ")", x.trace(i), bodies[i]);
        }
        Due.is(call + " trace behind it", x.trace(bodies.length), -1);
        Due.is(call + " bodies", x.status(8), bodies.length);
    }

    static void promise39ActOfThings() {
        act(0, 0, 8, 10);
        act(0, 1, 16, 11, 10);
        act(0, 2, 22, 12, 11, 10, 10);
    }

    static void promise39ActOfHouses() {
        act(1, 0, 10, 20, 10);
        act(1, 1, 20, 11, 20, 10);
        act(1, 2, 28, 12, 11, 20, 10, 20, 10);
        act(3, 0, 10, 20, 10);
        act(3, 1, 22, 40, 11, 20, 10);
        act(3, 2, 30, 12, 40, 11, 20, 10, 20, 10);
        act(4, 0, 7, 51, 20, 10);
        act(4, 1, 14, 11, 51, 20, 10);
        act(4, 2, -11, 50, 12, 11, 51, 20, 10, 51, 20, 10);
        act(5, 0, 10, 20, 10);
        act(5, 1, 20, 11, 20, 10);
        act(5, 2, 25, 60, 12, 11, 20, 10, 20, 10);
    }

    static void promise39ActOfTrees() {
        act(2, 0, 8, 10);
        act(2, 1, 48, 30, 11, 10);
        act(2, 2, 54, 12, 30, 11, 10, 10);
        act(6, 0, 16, 70, 10);
        act(6, 1, 72, 71, 30, 11, 70, 10);
        act(6, 2, 68, 12, 71, 30, 11, 70, 10, 70, 10);
    }

    static void promise39ActWraps() {
        SeenByOne x = third(6);
        Due.is("stands", x.act(3, 0, Integer.MAX_VALUE), 4);
        Due.is("looks", x.act(3, 1, Integer.MIN_VALUE), (Integer.MAX_VALUE - 1 + 3) * 2 * 2 * 3);
        SeenByOne y = third(0);
        Due.is("stands", y.act(3, 0, Integer.MAX_VALUE), Integer.MIN_VALUE + 2);
        Due.is("hides", y.act(3, 2, Integer.MIN_VALUE), 6 ^ (Integer.MIN_VALUE + 1));
    }

    static void promise39ActOfNone() {
        SeenByOne x = third(4);
        x.act(3, 2, 1);
        Due.is("no such act", x.act(3, 3, 5), 0);
        Due.is("no TRACE then", x.trace(0), -1);
        Due.is("no bodies", x.status(8), 0);
        x.act(3, 2, 1);
        Due.is("no such act", x.act(3, -1, 5), 0);
        Due.is("no bodies", x.status(8), 0);
        x.act(3, 2, 1);
        Due.is("no such THING", x.act(4, 0, 5), 0);
        Due.is("no TRACE then", x.trace(0), -1);
        x.act(3, 2, 1);
        Due.is("no such THING", x.act(-1, 0, 5), 0);
        Due.is("no TRACE then", x.trace(0), -1);
        Due.refused(x, 0, 0, 0, 0, 0, 0, 0);
    }

    static void promise40Trace() {
        SeenByOne x = third(4);
        Due.is("none yet", x.trace(0), -1);
        x.act(3, 2, 1);
        Due.is("trace(8)", x.trace(8), 10);
        Due.is("trace(9)", x.trace(9), -1);
        Due.is("trace(-1)", x.trace(-1), -1);
        Due.is("trace(20)", x.trace(20), -1);
        Due.is("trace(most)", x.trace(Integer.MAX_VALUE), -1);
        x.act(0, 1, 1);
        Due.is("of the latest act() alone", x.trace(2), -1);
        Due.is("trace(1)", x.trace(1), 10);
        Due.refused(x, 0, 0, 0, 0, 0, 0, 0);
    }
}
