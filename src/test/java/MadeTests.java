import java.util.Arrays;

/**
 * Terms, 3. WHAT COMES OF IT: what is told of a change is what comes of it when the change is made.
 * There is no second model here: each answer is held against what the class itself answers to
 * right(), seers() and sees() once curtains, shutters, THINGS and HEIGHTS are changed in truth.
 * The grounds are drawn, their HOUSES have the lowest numbers.
 */
final class MadeTests {
    private static final int GROUNDS = 250;
    private static final int MOST_HOUSES = 5;
    private static final int[] HOUSE_KINDS = {1, 1, 1, 3, 4, 5};
    private static final int[] OTHER_KINDS = {0, 2, 6};

    private long drawn;
    private final int houses;
    private final int things;
    private final String text;

    private MadeTests(int number) {
        drawn = 362436069362436069L + 7919L * number;
        houses = 1 + number % MOST_HOUSES;
        things = houses + below(3);
        text = drawText();
    }

    private interface Check {
        void of(MadeTests ground);
    }

    private static void onEachGround(Check check) {
        int wrongBefore = Due.wrong;
        for (int number = 0; number < GROUNDS && Due.wrong == wrongBefore; number++) {
            check.of(new MadeTests(number));
        }
    }

    private int below(int n) {
        drawn ^= drawn << 13;
        drawn ^= drawn >>> 7;
        drawn ^= drawn << 17;
        return (int) Long.remainderUnsigned(drawn, n);
    }

    /** Close together and of much the same HEIGHT, so that much is in the way. */
    private String drawText() {
        StringBuilder told = new StringBuilder("far " + (2 + below(8)) + ";summer " + below(2));
        boolean[] taken = new boolean[25];
        for (int thing = 0; thing < things; thing++) {
            int[] kinds = thing < houses ? HOUSE_KINDS : OTHER_KINDS;
            int place = below(25);
            while (taken[place]) {
                place = (place + 1) % 25;
            }
            taken[place] = true;
            told.append(";thing ").append(kinds[below(kinds.length)]).append(' ').append(place % 5).append(' ')
                .append(place / 5).append(' ').append(2 + below(3)).append(' ').append(below(4));
        }
        for (int i = 0; i < houses; i++) {
            int j = below(houses);
            told.append(i != j && below(3) == 0 ? ";shut " + i + " " + j : "");
            told.append(below(6) == 0 ? ";draw " + i : "");
        }
        return told.toString();
    }

    private SeenByOne made() {
        return Due.told(text);
    }

    private void is(String call, int got, int want) {
        Due.is(call + " of '" + text + "'", got, want);
    }

    private static int countRight(SeenByOne x) {
        return Integer.bitCount(x.right());
    }

    private boolean sees(SeenByOne x, int i, int j) {
        return i != j && x.sees(i, j, 1) == 1;
    }

    // ---- curtains

    private int rightWithDrawn(SeenByOne x, int set) {
        for (int house = 0; house < houses; house++) {
            x.draw(house, (set >> house & 1) == 1);
        }
        return countRight(x);
    }

    private void curtains(int what, int[] seasons) {
        int best = 0;
        int most = -1;
        for (int set = 0; set < 1 << houses; set++) {
            int right = 0;
            SeenByOne x = made();
            for (int season : seasons) {
                x.ask(0, season);
                right += rightWithDrawn(x, set);
            }
            if (right > most || right == most && Integer.bitCount(set) < Integer.bitCount(best)) {
                most = right;
                best = set;
            }
        }
        is("curtains(" + what + ")", made().curtains(what), best);
        is("curtains(" + (what + 1) + ")", made().curtains(what + 1), most);
    }

    /** "CURTAINS: of all sets of HOUSES to be DRAWN alone": each of them is drawn, in one season or in both. */
    static void terms3CurtainsMade() {
        onEachGround(ground -> {
            ground.curtains(0, new int[] {ground.made().status(2)});
            ground.curtains(2, new int[] {0, 1});
        });
    }

    /** "NIGHT .. (each one alone: drawn, or back)": each curtain is moved, and back. */
    static void terms3NightMade() {
        onEachGround(ground -> {
            SeenByOne x = ground.made();
            int[] inTheMorning = new int[ground.houses];
            for (int house = 0; house < ground.houses; house++) {
                boolean was = x.thingOf(house, 6) == 1;
                x.draw(house, !was);
                inTheMorning[house] = x.right();
                x.draw(house, was);
            }
            for (int right = 0; right < 1 << ground.houses; right++) {
                int movers = 0;
                for (int house = 0; house < ground.houses; house++) {
                    movers |= inTheMorning[house] == right ? 1 << house : 0;
                }
                ground.is("night(" + right + ")", x.night(right), movers);
            }
        });
    }

    // ---- shutters

    /** Of all sets of sights into a HOUSE that are SHUT besides: the least COST by which it is RIGHT; -1: by none. */
    private int leastCost(int house) {
        int seers = made().seers(house);
        int least = -1;
        for (int set = 0; set < 1 << houses; set++) {
            SeenByOne x = made();
            int cost = 0;
            for (int i = 0; i < houses && (set & ~seers) == 0; i++) {
                if ((set >> i & 1) == 1) {
                    cost += x.cost(i, house);
                    x.shut(i, house, true);
                }
            }
            boolean isRight = (set & ~seers) == 0 && (x.right() >> house & 1) == 1;
            least = isRight && (least < 0 || cost < least) ? cost : least;
        }
        return least;
    }

    /** "CHEAPEST: the least COST of SHUTTERS more by which all HOUSES are RIGHT": whatever else is SHUT costs more. */
    static void terms3CheapestMade() {
        onEachGround(ground -> {
            int cost = 0;
            int hopeless = 0;
            for (int house = 0; house < ground.houses; house++) {
                int least = ground.leastCost(house);
                cost += Math.max(0, least);
                hopeless |= least < 0 ? 1 << house : 0;
            }
            SeenByOne x = ground.made();
            ground.is("cheapest(0)", x.cheapest(0), cost);
            ground.is("cheapest(1)", x.cheapest(1), hopeless);
            ground.is("shuts()", x.shuts(), hopeless == 0 ? cost : -6);
        });
    }

    /** What is kept, and how many SHUTTERS there are, is so behind shuts(). */
    static void terms3ShutsMade() {
        onEachGround(ground -> {
            SeenByOne x = ground.made();
            int before = x.status(4);
            int shutters = x.cheapest(2);
            int[] kept = new int[ground.houses];
            for (int house = 0; house < ground.houses; house++) {
                kept[house] = x.keeps(house);
            }
            if (x.shuts() >= 0) {
                ground.is("right() behind shuts()", x.right(), x.status(1));
                ground.is("SHUTTERS behind shuts()", x.status(4), before + shutters);
                for (int house = 0; house < ground.houses; house++) {
                    int seers = kept[house] < 0 ? 0 : 1 << kept[house];
                    ground.is("seers(" + house + ") behind shuts()", x.seers(house), seers);
                }
                ground.is("shuts() again", x.shuts(), 0);
            }
        });
    }

    // ---- THINGS and HEIGHTS

    /** "NEWLY: of all free PLACES (by Y, then X)": a HOUSE is built on each of them. */
    static void terms3NewlyMade() {
        onEachGround(ground -> {
            int h = ground.below(21);
            SeenByOne x = ground.made();
            x.image();
            int best = -1;
            int most = -1;
            for (int place = 0; place < 100; place++) {
                if (x.thing(1, place % 10, place / 10, h, ground.below(10)) >= 0) {
                    int right = countRight(x);
                    best = right > most ? place : best;
                    most = Math.max(most, right);
                    x.restore();
                }
            }
            ground.is("newly(" + h + ")", x.newly(h), best);
        });
    }

    /** "STOREY .. if its HEIGHT were 1 more"; "BLINDED by a STOREY: sights (SEES INTO) that aren't any more" */
    static void terms3StoreyMade() {
        onEachGround(ground -> {
            for (int house = 0; house < ground.houses; house++) {
                SeenByOne before = ground.made();
                SeenByOne behind = ground.made();
                behind.height(house, before.thingOf(house, 3) + 1);
                int lost = 0;
                for (int i = 0; i < ground.houses; i++) {
                    for (int j = 0; j < ground.houses; j++) {
                        lost += ground.sees(before, i, j) && !ground.sees(behind, i, j) ? 1 : 0;
                    }
                }
                ground.is("storey(" + house + ")", before.storey(house), countRight(behind) - countRight(before));
                ground.is("blinded(" + house + ")", before.blinded(house), lost);
            }
        });
    }

    /** "FELLED: how many more are RIGHT without a THING that is no HOUSE": the ground is told without it. */
    static void terms3FelledMade() {
        onEachGround(ground -> {
            SeenByOne x = ground.made();
            for (int thing = ground.houses; thing < ground.things; thing++) {
                String item = ";thing " + x.thingOf(thing, 0) + " " + x.thingOf(thing, 1) + " " + x.thingOf(thing, 2) + " "
                    + x.thingOf(thing, 3) + " " + x.thingOf(thing, 4);
                SeenByOne without = Due.told(ground.text.replace(item, ""));
                ground.is("one less", without.status(0), ground.things - 1);
                ground.is("felled(" + thing + ")", x.felled(thing), countRight(without) - countRight(x));
            }
        });
    }

    // ---- sights

    /** "PAIRS: of HOUSES that SEE INTO each other"; "The HOUSE that SEES INTO most, of several the first." */
    static void terms3PairsAndMostMade() {
        onEachGround(ground -> {
            SeenByOne x = ground.made();
            int pairs = 0;
            int most = 0;
            int mostSeen = -1;
            for (int i = 0; i < ground.houses; i++) {
                int seen = 0;
                for (int j = 0; j < ground.houses; j++) {
                    seen += ground.sees(x, i, j) ? 1 : 0;
                    pairs += i < j && ground.sees(x, i, j) && ground.sees(x, j, i) ? 1 : 0;
                }
                most = seen > mostSeen ? i : most;
                mostSeen = Math.max(mostSeen, seen);
            }
            ground.is("pairs()", x.pairs(), pairs);
            ground.is("most()", x.most(), most);
        });
    }

    /** "BACK of a HOUSE: going from it to its first SEER, from there to that one's first SEER, and so on" */
    static void terms3BackMade() {
        onEachGround(ground -> {
            SeenByOne x = ground.made();
            for (int house = 0; house < ground.houses; house++) {
                int at = house;
                int steps = 0;
                do {
                    int seers = x.seers(at);
                    at = seers == 0 ? -1 : Integer.numberOfTrailingZeros(seers);
                    steps++;
                } while (at >= 0 && at != house && steps < 8);
                ground.is("back(" + house + ")", x.back(house), at == house ? steps : -1);
            }
        });
    }

    /** "A told LIST": told as it is in SUMMER, or in winter; FITS by whether the other season is told so, too. */
    static void terms3ListMade() {
        onEachGround(ground -> {
            int[][] told = new int[2][ground.things];
            for (int summer = 0; summer < 2; summer++) {
                SeenByOne x = ground.made();
                x.ask(0, summer);
                for (int j = 0; j < ground.houses; j++) {
                    for (int i = 0; i < ground.houses; i++) {
                        told[summer][j] |= ground.sees(x, i, j) ? 1 << i : 0;
                    }
                }
            }
            int now = ground.made().status(2);
            for (int summer = 0; summer < 2; summer++) {
                int wrong = -1;
                int unlike = 0;
                for (int j = 0; j < ground.things; j++) {
                    int otherwise = Integer.bitCount(told[summer][j] ^ told[now][j]);
                    wrong = wrong < 0 && otherwise > 0 ? j : wrong;
                    unlike += otherwise;
                }
                SeenByOne x = ground.made();
                x.row(0, 2, ground.things);
                for (int j = 0; j < ground.things; j++) {
                    x.set(0, j, told[summer][j]);
                }
                boolean both = Arrays.equals(told[0], told[1]);
                Due.list(x, wrong, unlike, both ? 3 : summer == 1 ? 1 : 2);
            }
        });
    }
}
