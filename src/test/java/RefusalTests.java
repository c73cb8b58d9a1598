/**
 * REFUSALS, promise by promise: each one by itself, the first of two that fit at once, and that nothing
 * changes but how many there were; and what changes nothing without being refused.
 */
final class RefusalTests {
    private static final int MOST = Integer.MAX_VALUE;
    private static final int LEAST = Integer.MIN_VALUE;

    private interface Call {
        int on(SeenByOne x);
    }

    private interface State {
        SeenByOne made();
    }

    private RefusalTests() {
    }

    /**
     * Something of everything. THINGS: 0 HOUSE, 1 wall of HEIGHT 20, 2 SHY, 3 TREE, 4 TOWER, 5 BLIND,
     * 6 HOUSE of HEIGHT 20. SHELVES: 0 bytes (4), 1 longs (7), 2 THING 6, 3 bytes (5) with a FAULT,
     * 4 NOTHING, 5 shorts (6), 6 THING 1, 7 NOTHING. THE IMAGE is of a ground before that.
     */
    private static SeenByOne seven() {
        SeenByOne x = new SeenByOne();
        Due.tell(x, "thing 1 0 0 4 2;thing 0 9 9 20 1;thing 4 1 0 3 1;thing 2 5 7 4 3;far 7;shut 2 0;draw 0");
        x.seed(5);
        x.image();
        Due.tell(x, "thing 3 0 1 3 5;thing 5 1 1 3 0;thing 1 2 1 20 9;far 5;shut 0 2;shut 6 0;draw 4");
        x.draw(0, false);
        x.height(0, 3);
        x.years(2);
        Due.put(x, 0, 0, 1, 2, 3, 4);
        x.row(1, 3, 7);
        x.set(1, 6, -1);
        x.show(2, 6);
        Due.put(x, 3, 0, "far 0");
        x.ground(3);
        x.row(5, 1, 6);
        x.set(5, 5, 9);
        x.show(6, 1);
        x.act(2, 2, 3);
        return x;
    }

    private static SeenByOne eight() {
        SeenByOne x = seven();
        x.thing(6, 9, 0, 2, 4);
        return x;
    }

    private static SeenByOne noHouses() {
        return Due.told("thing 0 0 0 1 1;thing 2 1 1 2 2;thing 6 2 2 3 3;summer 0");
    }

    /** HOUSES 0 and 5 have no SEERS, others too many. */
    private static SeenByOne hopeless() {
        SeenByOne x = seven();
        Due.tell(x, "shut 0 5;shut 2 5;shut 6 5");
        return x;
    }

    private static SeenByOne withoutImage() {
        SeenByOne x = Due.told("thing 1 0 0 4 2;thing 4 1 0 4 2;shut 0 1;draw 1;far 3");
        x.show(0, 1);
        return x;
    }

    /** The REFUSAL that an answer stands for: some calls answer it further below. */
    private static int codeOf(int answer) {
        if (answer <= -1000) {
            return answer + 1000;
        }
        return answer <= -10 ? answer + 10 : answer;
    }

    private static void refused(State state, String name, int answer, Call call) {
        SeenByOne x = state.made();
        SeenByOne unasked = state.made();
        Due.is(name, call.on(x), answer);
        for (int code = 1; code <= 7; code++) {
            int more = code == -codeOf(answer) ? 1 : 0;
            Due.is(name + ", counted as -" + code, x.status(10 + code), unasked.status(10 + code) + more);
        }
        Whole.same("behind " + name, x, unasked);
        Due.is("restore() behind " + name, x.restore(), unasked.restore());
        Whole.same("restored behind " + name, x, unasked);
    }

    private static void refused(String name, int answer, Call call) {
        refused(RefusalTests::seven, name, answer, call);
    }

    private static void refusedOfEight(String name, int answer, Call call) {
        refused(RefusalTests::eight, name + " of eight", answer, call);
    }

    static void promise02RowRefused() {
        refused("row(-1, 0, 1)", -1, x -> x.row(-1, 0, 1));
        refused("row(8, 0, 1)", -1, x -> x.row(8, 0, 1));
        refused("row(0, 0, -1)", -4, x -> x.row(0, 0, -1));
        refused("row(0, 0, least)", -4, x -> x.row(0, 0, LEAST));
        refused("row(0, -1, 1)", -6, x -> x.row(0, -1, 1));
        refused("row(0, 4, 1)", -6, x -> x.row(0, 4, 1));
        refused("row(2, 4, 1) where a THING is", -6, x -> x.row(2, 4, 1));
        refused("row(0, 0, 161)", -7, x -> x.row(0, 0, 161));
        refused("row(4, 3, most)", -7, x -> x.row(4, 3, MOST));
    }

    static void promise02RowRefusedForTwo() {
        refused("row(8, 0, -1)", -1, x -> x.row(8, 0, -1));
        refused("row(8, 4, 1)", -1, x -> x.row(8, 4, 1));
        refused("row(-1, 0, 161)", -1, x -> x.row(-1, 0, 161));
        refused("row(0, 4, -1)", -4, x -> x.row(0, 4, -1));
        refused("row(0, -1, -1)", -4, x -> x.row(0, -1, -1));
        refused("row(0, 4, 161)", -6, x -> x.row(0, 4, 161));
        refused("row(0, -1, 161)", -6, x -> x.row(0, -1, 161));
    }

    static void promise03SetRefused() {
        refused("set(-1, 0, 1)", -1, x -> x.set(-1, 0, 1));
        refused("set(8, 0, 1)", -1, x -> x.set(8, 0, 1));
        refused("set(2, 0, 1) of a THING", -2, x -> x.set(2, 0, 1));
        refused("set(4, 0, 1) of NOTHING", -3, x -> x.set(4, 0, 1));
        refused("set(0, -1, 1)", -5, x -> x.set(0, -1, 1));
        refused("set(0, 4, 1)", -5, x -> x.set(0, 4, 1));
        refused("set(1, 7, 1)", -5, x -> x.set(1, 7, 1));
        refused("set(1, most, 1)", -5, x -> x.set(1, MOST, 1));
    }

    static void promise03SetRefusedForTwo() {
        refused("set(8, -1, 1)", -1, x -> x.set(8, -1, 1));
        refused("set(2, -1, 1) of a THING", -2, x -> x.set(2, -1, 1));
        refused("set(4, 160, 1) of NOTHING", -3, x -> x.set(4, 160, 1));
    }

    static void promise04CopyRefused() {
        refused("copy from -1", -1, x -> x.copy(-1, 0, 0, 0, 1));
        refused("copy from 8", -1, x -> x.copy(8, 0, 0, 0, 1));
        refused("copy to -1", -1, x -> x.copy(0, -1, 0, 0, 1));
        refused("copy to 8", -1, x -> x.copy(0, 8, 0, 0, 1));
        refused("copy from a THING", -2, x -> x.copy(2, 0, 0, 0, 1));
        refused("copy to a THING", -2, x -> x.copy(0, 2, 0, 0, 1));
        refused("copy of two SORTS", -2, x -> x.copy(0, 1, 0, 0, 1));
        refused("copy of two SORTS back", -2, x -> x.copy(1, 5, 0, 0, 1));
        refused("copy from NOTHING", -3, x -> x.copy(4, 0, 0, 0, 1));
        refused("copy to NOTHING", -3, x -> x.copy(0, 4, 0, 0, 1));
        refused("copy of -1", -4, x -> x.copy(0, 3, 0, 0, -1));
        refused("copy of the least", -4, x -> x.copy(0, 3, 0, 0, LEAST));
    }

    /** SHELF 0 has 4 bytes, SHELF 3 has 5. */
    static void promise04CopyRefusedBeyond() {
        refused("copy from element -1", -5, x -> x.copy(0, 3, -1, 0, 1));
        refused("copy to element -1", -5, x -> x.copy(0, 3, 0, -1, 1));
        refused("copy of 5 from 4", -5, x -> x.copy(0, 3, 0, 0, 5));
        refused("copy of 5 to 4", -5, x -> x.copy(3, 0, 0, 0, 5));
        refused("copy from 3, 4", -5, x -> x.copy(0, 3, 3, 0, 2));
        refused("copy to 3, 4", -5, x -> x.copy(3, 0, 0, 3, 2));
        refused("copy from element 4", -5, x -> x.copy(0, 3, 4, 0, 1));
        refused("copy to element 4", -5, x -> x.copy(3, 0, 0, 4, 1));
        refused("copy of none from element 5", -5, x -> x.copy(0, 3, 5, 0, 0));
        refused("copy of none from element -1", -5, x -> x.copy(0, 3, -1, 0, 0));
        refused("copy whose end wraps", -5, x -> x.copy(0, 3, MOST, 0, MOST));
        refused("copy whose other end wraps", -5, x -> x.copy(0, 3, 0, MOST, 1));
        refused("copy in one ROW", -5, x -> x.copy(0, 0, 0, 1, 4));
    }

    static void promise04CopyRefusedForTwo() {
        refused("no SHELF, a THING", -1, x -> x.copy(8, 2, 0, 0, 1));
        refused("a THING, no SHELF", -1, x -> x.copy(2, -1, 0, 0, 1));
        refused("no SHELF, NOTHING", -1, x -> x.copy(8, 4, 0, 0, 1));
        refused("no SHELF, n below 0", -1, x -> x.copy(0, 8, 0, 0, -1));
        refused("no SHELF, i below 0", -1, x -> x.copy(8, 0, -1, 0, 1));
        refused("a THING, NOTHING", -2, x -> x.copy(2, 4, 0, 0, 1));
        refused("NOTHING, a THING", -2, x -> x.copy(4, 2, 0, 0, 1));
        refused("a THING, n below 0", -2, x -> x.copy(2, 0, 0, 0, -1));
        refused("a THING, j below 0", -2, x -> x.copy(0, 2, 0, -1, 1));
        refused("two SORTS, n below 0", -2, x -> x.copy(0, 1, 0, 0, -1));
        refused("two SORTS, an end beyond", -2, x -> x.copy(0, 1, 0, 0, 9));
        refused("NOTHING, n below 0", -3, x -> x.copy(4, 1, 0, 0, -1));
        refused("to NOTHING, i below 0", -3, x -> x.copy(1, 4, -1, 0, 1));
        refused("n below 0, i below 0", -4, x -> x.copy(0, 3, -1, 0, -1));
        refused("n below 0, j beyond", -4, x -> x.copy(0, 3, 0, 9, -1));
    }

    static void promise06ShowRefused() {
        refused("show(-1, 0)", -1, x -> x.show(-1, 0));
        refused("show(8, NONE)", -1, x -> x.show(8, -1));
        refused("show(0, -2)", -1, x -> x.show(0, -2));
        refused("show(2, 7)", -1, x -> x.show(2, 7));
        refused("show(8, 7)", -1, x -> x.show(8, 7));
        refusedOfEight("show(0, 8)", -1, x -> x.show(0, 8));
    }

    static void promise08SaysRefused() {
        refused("says(-1, 0)", -1, x -> x.says(-1, 0));
        refused("says(8, 0)", -1, x -> x.says(8, 0));
        refused("says(2, -1)", -1, x -> x.says(2, -1));
        refused("says(2, 7)", -1, x -> x.says(2, 7));
        refused("says(0, 0) of a ROW", -2, x -> x.says(0, 0));
        refused("says(2, 2): a HOUSE for a TREE", -2, x -> x.says(2, 2));
        refused("says(2, 3): a HOUSE for a TOWER", -2, x -> x.says(2, 3));
        refused("says(6, 1): a wall for a HOUSE", -2, x -> x.says(6, 1));
        refused("says(4, 0) of NOTHING", -3, x -> x.says(4, 0));
    }

    static void promise08SaysRefusedForTwo() {
        refused("says(8, 7)", -1, x -> x.says(8, 7));
        refused("says(0, 7) of a ROW", -1, x -> x.says(0, 7));
        refused("says(4, -1) of NOTHING", -1, x -> x.says(4, -1));
    }

    static void promise09ThingRefused() {
        refused("KIND -1", -1, x -> x.thing(-1, 8, 8, 1, 1));
        refused("KIND 7", -1, x -> x.thing(7, 8, 8, 1, 1));
        refused("X -1", -6, x -> x.thing(0, -1, 8, 1, 1));
        refused("X 10", -6, x -> x.thing(0, 10, 8, 1, 1));
        refused("Y -1", -6, x -> x.thing(0, 8, -1, 1, 1));
        refused("Y 10", -6, x -> x.thing(0, 8, 10, 1, 1));
        refused("HEIGHT -1", -6, x -> x.thing(0, 8, 8, -1, 1));
        refused("HEIGHT 21", -6, x -> x.thing(0, 8, 8, 21, 1));
        refused("a -1", -6, x -> x.thing(0, 8, 8, 1, -1));
        refused("a 10", -6, x -> x.thing(0, 8, 8, 1, 10));
        refused("the first PLACE that is taken", -6, x -> x.thing(0, 0, 0, 1, 1));
        refused("the last PLACE that is taken", -6, x -> x.thing(0, 2, 1, 1, 1));
        refusedOfEight("no room", -7, x -> x.thing(0, 8, 8, 1, 1));
    }

    static void promise09ThingRefusedForTwo() {
        refused("KIND 7, X 10", -1, x -> x.thing(7, 10, 8, 1, 1));
        refused("KIND -1, a PLACE that is taken", -1, x -> x.thing(-1, 0, 0, 1, 1));
        refusedOfEight("KIND 7, no room", -1, x -> x.thing(7, 8, 8, 1, 1));
        refusedOfEight("X 10, no room", -6, x -> x.thing(0, 10, 8, 1, 1));
        refusedOfEight("Y -1, no room", -6, x -> x.thing(0, 8, -1, 1, 1));
        refusedOfEight("HEIGHT 21, no room", -6, x -> x.thing(0, 8, 8, 21, 1));
        refusedOfEight("a 10, no room", -6, x -> x.thing(0, 8, 8, 1, 10));
        refusedOfEight("a PLACE that is taken, no room", -6, x -> x.thing(0, 9, 0, 1, 1));
    }

    static void promise10ThingOfRefused() {
        refused("thingOf(-1, 0)", -5, x -> x.thingOf(-1, 0));
        refused("thingOf(7, 0)", -5, x -> x.thingOf(7, 0));
        refused("thingOf(0, -1)", -5, x -> x.thingOf(0, -1));
        refused("thingOf(6, 7)", -5, x -> x.thingOf(6, 7));
        refused("thingOf(7, 7)", -5, x -> x.thingOf(7, 7));
        refusedOfEight("thingOf(8, 0)", -5, x -> x.thingOf(8, 0));
    }

    static void promise11HeightRefused() {
        refused("height(-1, 1)", -1, x -> x.height(-1, 1));
        refused("height(7, 1)", -1, x -> x.height(7, 1));
        refusedOfEight("height(8, 1)", -1, x -> x.height(8, 1));
        refused("height(0, -1)", -6, x -> x.height(0, -1));
        refused("height(6, 21)", -6, x -> x.height(6, 21));
        refused("height(7, 21)", -1, x -> x.height(7, 21));
    }

    static void promise12AskRefused() {
        refused("ask(0, -1)", -6, x -> x.ask(0, -1));
        refused("ask(0, 2)", -6, x -> x.ask(0, 2));
        refused("ask(1, 0)", -6, x -> x.ask(1, 0));
        refused("ask(1, 10)", -6, x -> x.ask(1, 10));
        refused("ask(-1, 1)", -6, x -> x.ask(-1, 1));
        refused("ask(2, 1)", -6, x -> x.ask(2, 1));
        refused("ask(2, 10)", -6, x -> x.ask(2, 10));
    }

    private interface Pair {
        int on(SeenByOne x, int i, int j);
    }

    private static void refused(String name, int answer, Pair pair, int i, int j) {
        refused(name + " of " + i + ", " + j, answer, x -> pair.on(x, i, j));
    }

    /** Of two HOUSES: no such THING before no HOUSE before the same; with what is added to each number. */
    private static void refusedOfPairs(String name, int added, Pair pair) {
        int[] none = {-1, 7, 8, MOST, LEAST};
        for (int thing : none) {
            refused(name, -1 + added, pair, thing, 0);
            refused(name, -1 + added, pair, 0, thing);
        }
        int[] noHouses = {1, 3};
        for (int thing : noHouses) {
            refused(name, -2 + added, pair, thing, 0);
            refused(name, -2 + added, pair, 0, thing);
        }
        refused(name, -6 + added, pair, 0, 0);
        refused(name, -6 + added, pair, 6, 6);
        refused(name + " for two:", -1 + added, pair, 7, 1);
        refused(name + " for two:", -1 + added, pair, 1, -1);
        refused(name + " for two:", -1 + added, pair, 7, 7);
        refused(name + " for two:", -2 + added, pair, 1, 1);
        refused(name + " for two:", -2 + added, pair, 3, 3);
    }

    static void promise13ShutRefused() {
        refusedOfPairs("shut true", 0, (x, i, j) -> x.shut(i, j, true));
        refusedOfPairs("shut false", 0, (x, i, j) -> x.shut(i, j, false));
    }

    private interface One {
        int on(SeenByOne x, int thing);
    }

    private static void refusedOfHouses(String name, int added, One one) {
        int[] none = {-1, 7, 8, MOST, LEAST};
        for (int thing : none) {
            refused(name + " of " + thing, -1 + added, x -> one.on(x, thing));
        }
        refusedOfEight(name + " of 8", -1 + added, x -> one.on(x, 8));
        refused(name + " of a wall", -2 + added, x -> one.on(x, 1));
        refused(name + " of a TREE", -2 + added, x -> one.on(x, 3));
        refusedOfEight(name + " of a FIR", -2 + added, x -> one.on(x, 7));
    }

    static void promise14DrawRefused() {
        refusedOfHouses("draw true", 0, (x, house) -> x.draw(house, true));
        refusedOfHouses("draw false", 0, (x, house) -> x.draw(house, false));
    }

    static void promise15GroundRefused() {
        refused("ground(-1)", -1, x -> x.ground(-1));
        refused("ground(8)", -1, x -> x.ground(8));
        refused("ground(2) of a THING", -2, x -> x.ground(2));
        refused("ground(4) of NOTHING", -3, x -> x.ground(4));
        refused("ground(3) with a FAULT", -6, x -> x.ground(3));
    }

    static void promise17SeesRefused() {
        refusedOfPairs("LOOKS INTO", 0, (x, i, j) -> x.sees(i, j, 0));
        refusedOfPairs("SEES INTO", 0, (x, i, j) -> x.sees(i, j, 1));
        refused("sees(0, 2, -1)", -5, x -> x.sees(0, 2, -1));
        refused("sees(0, 2, 2)", -5, x -> x.sees(0, 2, 2));
    }

    static void promise17SeesRefusedForTwo() {
        refused("no THING, another what", -1, x -> x.sees(7, 0, 2));
        refused("no THING seen, another what", -1, x -> x.sees(0, -1, -1));
        refused("no HOUSE, another what", -2, x -> x.sees(1, 0, 2));
        refused("no HOUSE seen, another what", -2, x -> x.sees(0, 3, 2));
        refused("another what, the same", -5, x -> x.sees(0, 0, 2));
    }

    static void promise18BarsRefused() {
        refusedOfPairs("bars", -10, (x, i, j) -> x.bars(i, j));
    }

    static void promise19SeersRefused() {
        refusedOfHouses("seers", 0, (x, house) -> x.seers(house));
    }

    static void promise22CostRefused() {
        refusedOfPairs("cost", 0, (x, i, j) -> x.cost(i, j));
    }

    static void promise23CheapestRefused() {
        refused("cheapest(-1)", -5, x -> x.cheapest(-1));
        refused("cheapest(3)", -5, x -> x.cheapest(3));
    }

    static void promise24KeepsRefused() {
        refusedOfHouses("keeps", -10, (x, house) -> x.keeps(house));
    }

    static void promise25CurtainsRefused() {
        refused("curtains(-1)", -5, x -> x.curtains(-1));
        refused("curtains(4)", -5, x -> x.curtains(4));
    }

    static void promise26NewlyRefused() {
        refused("newly(-1)", -6, x -> x.newly(-1));
        refused("newly(21)", -6, x -> x.newly(21));
        refusedOfEight("newly(0)", -7, x -> x.newly(0));
        refusedOfEight("newly(20)", -7, x -> x.newly(20));
        refusedOfEight("newly(-1)", -6, x -> x.newly(-1));
        refusedOfEight("newly(21)", -6, x -> x.newly(21));
    }

    /** A wall of HEIGHT 20 is no HOUSE first. */
    static void promise27StoreyRefused() {
        refusedOfHouses("storey", -1000, (x, house) -> x.storey(house));
        refused("storey(6) from HEIGHT 20", -1006, x -> x.storey(6));
    }

    static void promise28BlindedRefused() {
        refusedOfHouses("blinded", 0, (x, house) -> x.blinded(house));
        refused("blinded(6) from HEIGHT 20", -6, x -> x.blinded(6));
    }

    static void promise29FelledRefused() {
        int[] none = {-1, 7, 8, MOST, LEAST};
        for (int thing : none) {
            refused("felled of " + thing, -1001, x -> x.felled(thing));
        }
        refusedOfEight("felled of 8", -1001, x -> x.felled(8));
        int[] houses = {0, 2, 4, 5, 6};
        for (int house : houses) {
            refused("felled of HOUSE " + house, -1002, x -> x.felled(house));
        }
    }

    static void promise31BackRefused() {
        refusedOfHouses("back", -10, (x, house) -> x.back(house));
    }

    static void promise32MostRefused() {
        refused(SeenByOne::new, "most() of none", -5, x -> x.most());
        refused(RefusalTests::noHouses, "most() without HOUSES", -5, x -> x.most());
    }

    static void promise33ListRefused() {
        refused("list(-1, 0)", -11, x -> x.list(-1, 0));
        refused("list(8, 0)", -11, x -> x.list(8, 0));
        refused("list(2, 0) of a THING", -12, x -> x.list(2, 0));
        refused("list(4, 0) of NOTHING", -13, x -> x.list(4, 0));
        refused("list(5, 0) of 6 for 7", -15, x -> x.list(5, 0));
        refused("list(5, 2) of 6 for 7", -15, x -> x.list(5, 2));
        refusedOfEight("list(1, 1) of 7", -15, x -> x.list(1, 1));
        refused("list(1, -1)", -15, x -> x.list(1, -1));
        refused("list(1, 3)", -15, x -> x.list(1, 3));
    }

    static void promise33ListRefusedForTwo() {
        refused("no SHELF, another what", -11, x -> x.list(8, 3));
        refused("a THING, another what", -12, x -> x.list(2, 3));
        refused("NOTHING, another what", -13, x -> x.list(4, -1));
        refused("fewer elements, another what", -15, x -> x.list(5, 3));
    }

    static void promise34NightRefused() {
        refused("night of a wall", -6, x -> x.night(1 << 1));
        refused("night of a TREE and HOUSES", -6, x -> x.night(1 << 3 | 1 | 4));
        refused("night of no THING", -6, x -> x.night(1 << 7));
        refused("night of bit 8", -6, x -> x.night(1 << 8));
        refused("night of bit 31", -6, x -> x.night(LEAST));
        refused("night of all bits", -6, x -> x.night(-1));
    }

    static void promise35ShutsRefused() {
        Due.is("HOUSES that can't be", hopeless().cheapest(1), 1 | 1 << 5);
        Due.is("there are SHUTTERS of others", hopeless().cheapest(2) > 0 ? 1 : 0, 1);
        refused(RefusalTests::hopeless, "shuts()", -6, x -> x.shuts());
    }

    static void promise37YearsRefused() {
        int[] wrong = {0, -1, 31, MOST, LEAST};
        for (int n : wrong) {
            refused("years(" + n + ")", -6, x -> x.years(n));
        }
    }

    static void promise42RestoreRefused() {
        refused(SeenByOne::new, "restore() of a new one", -6, x -> x.restore());
        refused(RefusalTests::withoutImage, "restore()", -6, x -> x.restore());
    }

    private static void unchanged(String name, Call call) {
        SeenByOne x = seven();
        SeenByOne unasked = seven();
        call.on(x);
        for (int code = 1; code <= 7; code++) {
            Due.is(name + ", refused as -" + code, x.status(10 + code), unasked.status(10 + code));
        }
        Whole.same("behind " + name, x, unasked);
        Due.is("restore() behind " + name, x.restore(), unasked.restore());
        Whole.same("restored behind " + name, x, unasked);
    }

    /** "3. WHAT COMES OF IT (nothing is changed)" */
    static void terms3NothingIsChanged() {
        unchanged("cost(0, 2)", x -> x.cost(0, 2));
        unchanged("keeps(6)", x -> x.keeps(6));
        for (int what = 0; what < 4; what++) {
            int asked = what;
            unchanged("curtains(" + what + ")", x -> x.curtains(asked));
        }
        for (int what = 0; what < 3; what++) {
            int asked = what;
            unchanged("cheapest(" + what + ")", x -> x.cheapest(asked));
            unchanged("list(1, " + what + ")", x -> x.list(1, asked));
        }
        unchanged("newly(0)", x -> x.newly(0));
        unchanged("newly(20)", x -> x.newly(20));
        unchanged("storey(5)", x -> x.storey(5));
        unchanged("blinded(5)", x -> x.blinded(5));
        unchanged("felled(1)", x -> x.felled(1));
        unchanged("felled(3)", x -> x.felled(3));
        unchanged("pairs()", x -> x.pairs());
        unchanged("back(0)", x -> x.back(0));
        unchanged("most()", x -> x.most());
        unchanged("night(1)", x -> x.night(1));
        unchanged("bars(0, 2)", x -> x.bars(0, 2));
        unchanged("says(2, 1)", x -> x.says(2, 1));
    }

    /** These refuse nothing, whatever they are given. */
    static void promise43NothingRefused() {
        SeenByOne x = seven();
        int[] odd = {-1, 7, 8, 100, MOST, LEAST};
        int[] before = new int[7];
        for (int code = 0; code < 7; code++) {
            before[code] = x.status(11 + code);
        }
        for (int v : odd) {
            x.element(v, 0);
            x.element(0, v);
            x.holds(v);
            x.seed(v);
            x.act(v, 0, v);
            x.act(0, v, v);
            x.trace(v);
            x.status(v);
        }
        for (int code = 0; code < 7; code++) {
            Due.is("status(" + (11 + code) + ")", x.status(11 + code), before[code]);
        }
    }
}
