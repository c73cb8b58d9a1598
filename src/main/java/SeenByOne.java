/**
 * A ground with walls, houses and trees, and who sees into whom on it.
 * Words in capitals are the document's, where each of them is explained.
 */
public final class SeenByOne {
    public static final int NONE = -1;

    private static final int NOBODY = -1;
    private static final int OTHER = -2;
    private static final int NOTHING = -3;
    private static final int BELOW = -4;
    private static final int BEYOND = -5;
    private static final int WRONG = -6;
    private static final int ROOM = -7;
    private static final int REFUSAL_CODES = 7;

    /** Where a number from -7 on can be an answer, a REFUSAL is told as one further below. */
    private static final int BELOW_NONE = 10;
    private static final int BELOW_ALL_LOSSES = 1000;

    private static final int THING = 0;
    private static final int HOUSE = 1;
    private static final int TREE = 2;
    private static final int TOWER = 3;
    private static final int SHY = 4;
    private static final int BLIND = 5;
    private static final int FIR = 6;

    private static final int MOST_THINGS = 8;
    private static final int MOST_PLACE = 9;
    private static final int MOST_HEIGHT = 20;
    private static final int MOST_A = 9;
    private static final int MOST_FAR = 9;
    private static final int MOST_YEARS = 30;
    private static final int GROWTH = 3;

    private static final int SHELVES = 8;
    private static final int MOST_ELEMENTS = 160;
    private static final int ROWS_FROM = 100;
    private static final int BYTES = 0;
    private static final int SHORTS = 1;
    private static final int INTS = 2;
    private static final int LONGS = 3;

    private final Shelf[] shelves = new Shelf[SHELVES];
    private final Ground ground = new Ground();
    private final Ground image = new Ground();
    /** What would come of a change is looked up on this copy, so that nothing is changed. */
    private final Ground trial = new Ground();
    private final Acts acts = new Acts();
    private final int[] refusals = new int[REFUSAL_CODES + 1];
    /** By each set of HOUSES, as bits: how many are RIGHT when that set is DRAWN. */
    private final int[] rightWhenDrawn = new int[1 << MOST_THINGS];
    private boolean hasImage = false;
    private int latestFault = NONE;

    public SeenByOne() {
        for (int s = 0; s < SHELVES; s++) {
            shelves[s] = new Shelf();
        }
    }

    // ---- SHELVES

    public int row(int s, int sort, int n) {
        if (!isShelf(s)) {
            return refuse(NOBODY);
        }
        if (n < 0) {
            return refuse(BELOW);
        }
        if (sort < BYTES || sort > LONGS) {
            return refuse(WRONG);
        }
        if (n > MOST_ELEMENTS) {
            return refuse(ROOM);
        }
        shelves[s].becomeRow(sort, n);
        return 1;
    }

    public int set(int s, int i, long v) {
        int refusal = lacksRow(s);
        if (refusal == 0 && !shelves[s].hasElement(i)) {
            refusal = BEYOND;
        }
        if (refusal != 0) {
            return refuse(refusal);
        }
        shelves[s].put(i, v);
        return 1;
    }

    public int copy(int p, int q, int i, int j, int n) {
        int refusal = lacksRows(p, q);
        if (refusal == 0 && n < 0) {
            refusal = BELOW;
        }
        if (refusal == 0 && !(shelves[p].hasElements(i, n) && shelves[q].hasElements(j, n))) {
            refusal = BEYOND;
        }
        if (refusal != 0) {
            return refuse(refusal);
        }
        System.arraycopy(shelves[p].elements, i, shelves[q].elements, j, n);
        return 1;
    }

    public long element(int s, int i) {
        if (lacksRow(s) != 0 || !shelves[s].hasElement(i)) {
            return 0;
        }
        return shelves[s].elements[i];
    }

    public int show(int s, int thing) {
        if (!isShelf(s) || thing != NONE && !ground.has(thing)) {
            return refuse(NOBODY);
        }
        shelves[s].held = thing;
        return thing == NONE ? 0 : 1;
    }

    public int holds(int s) {
        return isShelf(s) ? shelves[s].held : NONE;
    }

    public int says(int s, int kind) {
        if (!isShelf(s) || !isKind(kind)) {
            return refuse(NOBODY);
        }
        if (shelves[s].holdsRow()) {
            return refuse(OTHER);
        }
        int thing = shelves[s].held;
        if (!ground.has(thing)) {
            return refuse(NOTHING);
        }
        if (!isOfKind(ground.kinds[thing], kind)) {
            return refuse(OTHER);
        }
        return wordOf(thing, kind);
    }

    private int wordOf(int thing, int kind) {
        ground.lookAround();
        switch (kind) {
            case THING:
                return ground.tallOf(thing);
            case HOUSE:
                return Integer.bitCount(ground.seersOf(thing));
            case TREE:
                return Math.max(0, ground.tallOf(thing) - ground.heights[thing]);
            case TOWER:
                return ground.eyesOf(thing);
            case SHY:
                return isIn(ground.rightHouses(), thing) ? 1 : 0;
            case FIR:
                return ground.as[thing];
            default:
                return 0;
        }
    }

    // ---- THE GROUND

    public int thing(int kind, int x, int y, int height, int a) {
        if (!isKind(kind)) {
            return refuse(NOBODY);
        }
        boolean may = isPlace(x, y) && isHeight(height) && a >= 0 && a <= MOST_A;
        if (!may || ground.thingAt(x, y) != NONE) {
            return refuse(WRONG);
        }
        if (ground.isFull()) {
            return refuse(ROOM);
        }
        return ground.add(kind, x, y, height, a);
    }

    public int thingOf(int thing, int what) {
        if (!ground.has(thing)) {
            return refuse(BEYOND);
        }
        switch (what) {
            case 0:
                return ground.kinds[thing];
            case 1:
                return ground.xs[thing];
            case 2:
                return ground.ys[thing];
            case 3:
                return ground.heights[thing];
            case 4:
                return ground.as[thing];
            case 5:
                return ground.tallOf(thing);
            case 6:
                return isIn(ground.drawn, thing) ? 1 : 0;
            default:
                return refuse(BEYOND);
        }
    }

    public int height(int thing, int v) {
        if (!ground.has(thing)) {
            return refuse(NOBODY);
        }
        if (!isHeight(v)) {
            return refuse(WRONG);
        }
        int was = ground.heights[thing];
        ground.heights[thing] = v;
        return was;
    }

    public int ask(int what, int v) {
        if (what == 0 && isSummer(v)) {
            int was = ground.summer;
            ground.summer = v;
            return was;
        }
        if (what == 1 && isFar(v)) {
            int was = ground.far;
            ground.far = v;
            return was;
        }
        return refuse(WRONG);
    }

    public int shut(int i, int j, boolean is) {
        int refusal = lacksSight(i, j);
        if (refusal != 0) {
            return refuse(refusal);
        }
        if (isIn(ground.shutInto[j], i) == is) {
            return 0;
        }
        ground.shutInto[j] ^= bit(i);
        return 1;
    }

    public int draw(int house, boolean is) {
        int refusal = lacksHouse(house);
        if (refusal != 0) {
            return refuse(refusal);
        }
        if (isIn(ground.drawn, house) == is) {
            return 0;
        }
        ground.drawn ^= bit(house);
        return 1;
    }

    public int ground(int s) {
        int refusal = lacksRow(s);
        if (refusal != 0) {
            return refuse(refusal);
        }
        trial.copyFrom(ground);
        Reader reader = new Reader(shelves[s], trial);
        int items = reader.readItems();
        latestFault = reader.faultPlace;
        if (latestFault != NONE) {
            return refuse(WRONG);
        }
        ground.copyFrom(trial);
        return items;
    }

    public int fault() {
        return latestFault;
    }

    // ---- SIGHTS

    public int sees(int i, int j, int what) {
        int refusal = lacksHouses(i, j);
        if (refusal == 0 && what != 0 && what != 1) {
            refusal = BEYOND;
        }
        if (refusal == 0) {
            refusal = lacksSight(i, j);
        }
        if (refusal != 0) {
            return refuse(refusal);
        }
        ground.lookAround();
        int lookers = what == 0 ? ground.lookers[j] : ground.lookersSeeing(j);
        return isIn(lookers, i) ? 1 : 0;
    }

    public int bars(int i, int j) {
        int refusal = lacksSight(i, j);
        if (refusal != 0) {
            return refuse(refusal) - BELOW_NONE;
        }
        return ground.firstBar(i, j);
    }

    public int seers(int house) {
        int refusal = lacksHouse(house);
        if (refusal != 0) {
            return refuse(refusal);
        }
        ground.lookAround();
        return ground.seersOf(house);
    }

    public int right() {
        ground.lookAround();
        return ground.rightHouses();
    }

    public int first() {
        ground.lookAround();
        return lowestOf(ground.houses() & ~ground.rightHouses());
    }

    // ---- WHAT COMES OF IT

    public int cost(int i, int j) {
        int refusal = lacksSight(i, j);
        if (refusal != 0) {
            return refuse(refusal);
        }
        return ground.costOf(i, j);
    }

    public int cheapest(int what) {
        ground.lookAround();
        switch (what) {
            case 0:
                return ground.cheapestCost();
            case 1:
                return ground.hopelessHouses();
            case 2:
                return ground.cheapestShutters();
            default:
                return refuse(BEYOND);
        }
    }

    public int keeps(int house) {
        int refusal = lacksHouse(house);
        if (refusal != 0) {
            return refuse(refusal) - BELOW_NONE;
        }
        ground.lookAround();
        return ground.keptSeer(house);
    }

    public int curtains(int what) {
        if (what < 0 || what > 3) {
            return refuse(BEYOND);
        }
        for (int set = 0; set < rightWhenDrawn.length; set++) {
            rightWhenDrawn[set] = 0;
        }
        if (what < 2) {
            addRightWhenDrawn(ground.summer);
        } else {
            addRightWhenDrawn(0);
            addRightWhenDrawn(1);
        }
        int best = bestDrawnSet();
        return what == 0 || what == 2 ? best : rightWhenDrawn[best];
    }

    private void addRightWhenDrawn(int summer) {
        trial.copyFrom(ground);
        trial.summer = summer;
        trial.lookAround();
        int houses = trial.houses();
        for (int set = 0; set < rightWhenDrawn.length; set++) {
            if ((set & ~houses) == 0) {
                trial.drawn = set;
                rightWhenDrawn[set] += trial.countRight();
            }
        }
    }

    private int bestDrawnSet() {
        int houses = ground.houses();
        int best = 0;
        for (int set = 1; set < rightWhenDrawn.length; set++) {
            int more = rightWhenDrawn[set] - rightWhenDrawn[best];
            boolean fewer = Integer.bitCount(set) < Integer.bitCount(best);
            if ((set & ~houses) == 0 && (more > 0 || more == 0 && fewer)) {
                best = set;
            }
        }
        return best;
    }

    public int newly(int h) {
        if (!isHeight(h)) {
            return refuse(WRONG);
        }
        if (ground.isFull()) {
            return refuse(ROOM);
        }
        trial.copyFrom(ground);
        int bestPlace = NONE;
        int bestRight = NONE;
        for (int y = 0; y <= MOST_PLACE; y++) {
            for (int x = 0; x <= MOST_PLACE; x++) {
                int right = rightWithNewHouse(x, y, h);
                if (right > bestRight) {
                    bestRight = right;
                    bestPlace = 10 * y + x;
                }
            }
        }
        return bestPlace == NONE ? refuse(BEYOND) : bestPlace;
    }

    /** On the trial, which is left as it was; NONE where the PLACE is taken. */
    private int rightWithNewHouse(int x, int y, int h) {
        if (trial.isFull() || trial.thingAt(x, y) != NONE) {
            return NONE;
        }
        trial.add(HOUSE, x, y, h, 0);
        trial.lookAround();
        int right = trial.countRight();
        trial.dropLatest();
        return right;
    }

    public int storey(int house) {
        int refusal = lacksStorey(house);
        if (refusal != 0) {
            return refuse(refusal) - BELOW_ALL_LOSSES;
        }
        tryStorey(house);
        return trial.countRight() - ground.countRight();
    }

    public int blinded(int house) {
        int refusal = lacksStorey(house);
        if (refusal != 0) {
            return refuse(refusal);
        }
        tryStorey(house);
        int lost = 0;
        for (int j = 0; j < MOST_THINGS; j++) {
            lost += Integer.bitCount(ground.lookersSeeing(j) & ~trial.lookersSeeing(j));
        }
        return lost;
    }

    private void tryStorey(int house) {
        ground.lookAround();
        trial.copyFrom(ground);
        trial.heights[house]++;
        trial.lookAround();
    }

    public int felled(int thing) {
        if (!ground.has(thing)) {
            return refuse(NOBODY) - BELOW_ALL_LOSSES;
        }
        if (ground.isHouse(thing)) {
            return refuse(OTHER) - BELOW_ALL_LOSSES;
        }
        ground.lookAround();
        trial.copyFrom(ground);
        trial.takeAway(thing);
        trial.lookAround();
        return trial.countRight() - ground.countRight();
    }

    public int pairs() {
        ground.lookAround();
        int pairs = 0;
        for (int j = 0; j < MOST_THINGS; j++) {
            for (int i = 0; i < j; i++) {
                if (isIn(ground.lookersSeeing(j), i) && isIn(ground.lookersSeeing(i), j)) {
                    pairs++;
                }
            }
        }
        return pairs;
    }

    public int back(int house) {
        int refusal = lacksHouse(house);
        if (refusal != 0) {
            return refuse(refusal) - BELOW_NONE;
        }
        ground.lookAround();
        int at = house;
        for (int steps = 1; steps <= MOST_THINGS; steps++) {
            at = lowestOf(ground.seersOf(at));
            if (at == NONE) {
                return NONE;
            }
            if (at == house) {
                return steps;
            }
        }
        return NONE;
    }

    public int most() {
        if (ground.houses() == 0) {
            return refuse(BEYOND);
        }
        ground.lookAround();
        int best = NONE;
        int bestSeen = NONE;
        for (int i = 0; i < MOST_THINGS; i++) {
            int seen = ground.isHouse(i) ? ground.countSeenBy(i) : NONE;
            if (seen > bestSeen) {
                best = i;
                bestSeen = seen;
            }
        }
        return best;
    }

    public int list(int s, int what) {
        int refusal = lacksRow(s);
        if (refusal == 0 && (shelves[s].size < ground.count || what < 0 || what > 2)) {
            refusal = BEYOND;
        }
        if (refusal != 0) {
            return refuse(refusal) - BELOW_NONE;
        }
        ground.lookAround();
        switch (what) {
            case 0:
                return firstWrong(ground, shelves[s]);
            case 1:
                return countUnlike(ground, shelves[s]);
            default:
                return fitsIn(shelves[s], 1) + 2 * fitsIn(shelves[s], 0);
        }
    }

    private static int firstWrong(Ground of, Shelf told) {
        for (int j = 0; j < of.count; j++) {
            if (unlikeBits(of, told, j) != 0) {
                return j;
            }
        }
        return NONE;
    }

    private static int countUnlike(Ground of, Shelf told) {
        int unlike = 0;
        for (int j = 0; j < of.count; j++) {
            unlike += Integer.bitCount(unlikeBits(of, told, j));
        }
        return unlike;
    }

    private static int unlikeBits(Ground of, Shelf told, int thing) {
        int there = bit(of.count) - 1;
        return (told.intAt(thing) ^ of.lookersSeeing(thing)) & there;
    }

    private int fitsIn(Shelf told, int summer) {
        trial.copyFrom(ground);
        trial.summer = summer;
        trial.lookAround();
        return firstWrong(trial, told) == NONE ? 1 : 0;
    }

    public int night(int right) {
        int houses = ground.houses();
        if ((right & ~houses) != 0) {
            return refuse(WRONG);
        }
        trial.copyFrom(ground);
        trial.lookAround();
        int movers = 0;
        for (int i = 0; i < MOST_THINGS; i++) {
            trial.drawn = ground.drawn ^ bit(i);
            if (isIn(houses, i) && trial.rightHouses() == right) {
                movers |= bit(i);
            }
        }
        return movers;
    }

    // ---- in truth

    public int shuts() {
        ground.lookAround();
        if (ground.hopelessHouses() != 0) {
            return refuse(WRONG);
        }
        int cost = ground.cheapestCost();
        for (int j = 0; j < MOST_THINGS; j++) {
            ground.shutInto[j] |= ground.seersTooMany(j);
        }
        return cost;
    }

    public int opens() {
        int were = ground.countShutters() + Integer.bitCount(ground.drawn);
        for (int j = 0; j < MOST_THINGS; j++) {
            ground.shutInto[j] = 0;
        }
        ground.drawn = 0;
        return were;
    }

    public int years(int n) {
        if (n < 1 || n > MOST_YEARS) {
            return refuse(WRONG);
        }
        int finesBefore = ground.fines;
        for (int year = 0; year < n; year++) {
            ground.passYear();
        }
        return ground.fines - finesBefore;
    }

    public int seed(int v) {
        int was = ground.seed;
        ground.seed = v;
        return was;
    }

    // ---- ACTS

    public int act(int thing, int act, int x) {
        acts.forget();
        if (!ground.has(thing)) {
            return 0;
        }
        acts.actor(ground.kinds[thing], thing, ground.as[thing]);
        switch (act) {
            case 0:
                return acts.stands(x);
            case 1:
                return acts.looks(x);
            case 2:
                return acts.hides(x);
            default:
                return 0;
        }
    }

    public int trace(int i) {
        return acts.bodyAt(i);
    }

    // ---- THE IMAGE, and how many

    public int image() {
        image.copyFrom(ground);
        hasImage = true;
        return ground.count;
    }

    public int restore() {
        if (!hasImage) {
            return refuse(WRONG);
        }
        ground.copyFrom(image);
        for (int s = 0; s < SHELVES; s++) {
            if (shelves[s].holdsThing() && !ground.has(shelves[s].held)) {
                shelves[s].held = NONE;
            }
        }
        return ground.count;
    }

    public int status(int what) {
        if (what > 10 && what <= 10 + REFUSAL_CODES) {
            return refusals[what - 10];
        }
        switch (what) {
            case 0:
                return ground.count;
            case 1:
                return ground.houses();
            case 2:
                return ground.summer;
            case 3:
                return ground.far;
            case 4:
                return ground.countShutters();
            case 5:
                return Integer.bitCount(ground.drawn);
            case 6:
                return ground.fines;
            case 7:
                return ground.seed;
            case 8:
                return acts.ran;
            default:
                return NONE;
        }
    }

    // ---- REFUSALS

    private int refuse(int code) {
        refusals[-code]++;
        return code;
    }

    private int lacksRow(int s) {
        if (!isShelf(s)) {
            return NOBODY;
        }
        if (shelves[s].holdsThing()) {
            return OTHER;
        }
        return shelves[s].holdsRow() ? 0 : NOTHING;
    }

    private int lacksRows(int p, int q) {
        if (!isShelf(p) || !isShelf(q)) {
            return NOBODY;
        }
        if (shelves[p].holdsThing() || shelves[q].holdsThing()) {
            return OTHER;
        }
        if (!shelves[p].holdsRow() || !shelves[q].holdsRow()) {
            return NOTHING;
        }
        return shelves[p].held == shelves[q].held ? 0 : OTHER;
    }

    private int lacksHouse(int house) {
        return lacksHouses(house, house);
    }

    private int lacksHouses(int i, int j) {
        if (!ground.has(i) || !ground.has(j)) {
            return NOBODY;
        }
        return ground.isHouse(i) && ground.isHouse(j) ? 0 : OTHER;
    }

    private int lacksSight(int i, int j) {
        int refusal = lacksHouses(i, j);
        return refusal == 0 && i == j ? WRONG : refusal;
    }

    private int lacksStorey(int house) {
        int refusal = lacksHouse(house);
        if (refusal == 0 && ground.heights[house] >= MOST_HEIGHT) {
            return WRONG;
        }
        return refusal;
    }

    // ---- what may be

    private static boolean isShelf(int s) {
        return s >= 0 && s < SHELVES;
    }

    private static boolean isKind(int kind) {
        return kind >= THING && kind <= FIR;
    }

    private static boolean isHouseKind(int kind) {
        return kind == HOUSE || kind == TOWER || kind == SHY || kind == BLIND;
    }

    private static boolean isTreeKind(int kind) {
        return kind == TREE || kind == FIR;
    }

    private static boolean isOfKind(int kind, int wanted) {
        switch (wanted) {
            case THING:
                return true;
            case HOUSE:
                return isHouseKind(kind);
            case TREE:
                return isTreeKind(kind);
            default:
                return kind == wanted;
        }
    }

    private static boolean isPlace(int x, int y) {
        return x >= 0 && x <= MOST_PLACE && y >= 0 && y <= MOST_PLACE;
    }

    private static boolean isHeight(int height) {
        return height >= 0 && height <= MOST_HEIGHT;
    }

    private static boolean isSummer(int v) {
        return v == 0 || v == 1;
    }

    private static boolean isFar(int v) {
        return v >= 1 && v <= MOST_FAR;
    }

    // ---- bits by the numbers of THINGS

    private static int bit(int thing) {
        return 1 << thing;
    }

    private static boolean isIn(int bits, int thing) {
        return (bits & bit(thing)) != 0;
    }

    private static int lowestOf(int bits) {
        for (int thing = 0; thing < MOST_THINGS; thing++) {
            if (isIn(bits, thing)) {
                return thing;
            }
        }
        return NONE;
    }

    /** Of a SHELF: what it holds, and the elements of its ROW, made once and used again. */
    private static final class Shelf {
        int held = NONE;
        int size = 0;
        final long[] elements = new long[MOST_ELEMENTS];

        boolean holdsRow() {
            return held >= ROWS_FROM;
        }

        boolean holdsThing() {
            return held >= 0 && held < MOST_THINGS;
        }

        void becomeRow(int sort, int n) {
            held = ROWS_FROM + sort;
            size = n;
            for (int i = 0; i < MOST_ELEMENTS; i++) {
                elements[i] = 0;
            }
        }

        boolean hasElement(int i) {
            return i >= 0 && i < size;
        }

        /** Asked without i + n, which could wrap. */
        boolean hasElements(int i, int n) {
            return i >= 0 && n >= 0 && i <= size - n;
        }

        void put(int i, long v) {
            switch (held - ROWS_FROM) {
                case BYTES:
                    elements[i] = (byte) v;
                    break;
                case SHORTS:
                    elements[i] = (short) v;
                    break;
                case INTS:
                    elements[i] = (int) v;
                    break;
                default:
                    elements[i] = v;
                    break;
            }
        }

        int intAt(int i) {
            return hasElement(i) ? (int) elements[i] : 0;
        }
    }

    /** All that THE IMAGE keeps: THINGS, seasons, shutters and curtains, FINES and SEED. */
    private static final class Ground {
        int count = 0;
        int summer = 1;
        int far = MOST_FAR;
        int drawn = 0;
        int fines = 0;
        int seed = 1;
        final int[] kinds = new int[MOST_THINGS];
        final int[] xs = new int[MOST_THINGS];
        final int[] ys = new int[MOST_THINGS];
        final int[] heights = new int[MOST_THINGS];
        final int[] as = new int[MOST_THINGS];
        /** By the HOUSE that is seen: those whose sight into it is SHUT (bits). */
        final int[] shutInto = new int[MOST_THINGS];
        /** By the HOUSE that is seen: those that LOOK INTO it (bits), as lookAround() found them. */
        final int[] lookers = new int[MOST_THINGS];

        /** All but what lookAround() finds. */
        void copyFrom(Ground other) {
            count = other.count;
            summer = other.summer;
            far = other.far;
            drawn = other.drawn;
            fines = other.fines;
            seed = other.seed;
            System.arraycopy(other.kinds, 0, kinds, 0, MOST_THINGS);
            System.arraycopy(other.xs, 0, xs, 0, MOST_THINGS);
            System.arraycopy(other.ys, 0, ys, 0, MOST_THINGS);
            System.arraycopy(other.heights, 0, heights, 0, MOST_THINGS);
            System.arraycopy(other.as, 0, as, 0, MOST_THINGS);
            System.arraycopy(other.shutInto, 0, shutInto, 0, MOST_THINGS);
        }

        // THINGS

        boolean has(int thing) {
            return thing >= 0 && thing < count;
        }

        boolean isHouse(int thing) {
            return has(thing) && isHouseKind(kinds[thing]);
        }

        boolean isFull() {
            return count >= MOST_THINGS;
        }

        int thingAt(int x, int y) {
            for (int thing = 0; thing < count; thing++) {
                if (xs[thing] == x && ys[thing] == y) {
                    return thing;
                }
            }
            return NONE;
        }

        /** To be asked only where isFull() isn't so. */
        int add(int kind, int x, int y, int height, int a) {
            kinds[count] = kind;
            xs[count] = x;
            ys[count] = y;
            heights[count] = height;
            as[count] = a;
            count++;
            return count - 1;
        }

        void dropLatest() {
            if (count > 0) {
                count--;
            }
        }

        /** It keeps its number, so that the bits of the others stay theirs, but stands nowhere. */
        void takeAway(int thing) {
            xs[thing] = NONE;
            ys[thing] = NONE;
        }

        int houses() {
            int bits = 0;
            for (int thing = 0; thing < count; thing++) {
                if (isHouseKind(kinds[thing])) {
                    bits |= bit(thing);
                }
            }
            return bits;
        }

        int towers() {
            int bits = 0;
            for (int thing = 0; thing < count; thing++) {
                if (kinds[thing] == TOWER) {
                    bits |= bit(thing);
                }
            }
            return bits;
        }

        // SIGHTS

        int tallOf(int thing) {
            switch (kinds[thing]) {
                case TREE:
                    return summer == 1 ? heights[thing] + as[thing] : 0;
                case FIR:
                    return heights[thing] + as[thing];
                default:
                    return heights[thing];
            }
        }

        /** A BLIND one's, too: where it would look from. */
        int eyesOf(int house) {
            return kinds[house] == TOWER ? heights[house] + as[house] : heights[house];
        }

        int distanceOf(int i, int j) {
            return Math.max(Math.abs(xs[i] - xs[j]), Math.abs(ys[i] - ys[j]));
        }

        void lookAround() {
            for (int j = 0; j < MOST_THINGS; j++) {
                lookers[j] = isHouse(j) ? lookersInto(j) : 0;
            }
        }

        private int lookersInto(int j) {
            int bits = 0;
            for (int i = 0; i < count; i++) {
                if (i != j && looksInto(i, j)) {
                    bits |= bit(i);
                }
            }
            return bits;
        }

        private boolean looksInto(int i, int j) {
            boolean hasEyes = isHouseKind(kinds[i]) && kinds[i] != BLIND;
            return hasEyes && distanceOf(i, j) <= far && firstBar(i, j) == NONE;
        }

        /** The first by number, as everywhere; only at whole parts of the line can a THING stand. */
        int firstBar(int i, int j) {
            int first = NONE;
            int wayX = xs[j] - xs[i];
            int wayY = ys[j] - ys[i];
            int parts = greatestDivisor(Math.abs(wayX), Math.abs(wayY));
            for (int k = 1; k < parts; k++) {
                int between = thingAt(xs[i] + wayX / parts * k, ys[i] + wayY / parts * k);
                int sight = eyesOf(i) * (parts - k) + heights[j] * k;
                boolean isBar = between != NONE && tallOf(between) * parts > sight;
                if (isBar && (first == NONE || between < first)) {
                    first = between;
                }
            }
            return first;
        }

        private static int greatestDivisor(int p, int q) {
            for (int divisor = Math.max(p, q); divisor > 1; divisor--) {
                if (p % divisor == 0 && q % divisor == 0) {
                    return divisor;
                }
            }
            return 1;
        }

        /** Those who SEE INTO it, TOWERS too. */
        int lookersSeeing(int house) {
            return lookers[house] & ~drawn & ~shutInto[house];
        }

        int seersOf(int house) {
            return lookersSeeing(house) & ~towers();
        }

        int countSeenBy(int house) {
            int seen = 0;
            for (int j = 0; j < count; j++) {
                if (isIn(lookersSeeing(j), house)) {
                    seen++;
                }
            }
            return seen;
        }

        int rightHouses() {
            int seeing = ~drawn & ~towers();
            int bits = 0;
            for (int j = 0; j < count; j++) {
                int seers = Integer.bitCount(lookers[j] & ~shutInto[j] & seeing);
                int wanted = kinds[j] == SHY ? 0 : 1;
                if (isHouseKind(kinds[j]) && seers == wanted) {
                    bits |= bit(j);
                }
            }
            return bits;
        }

        int countRight() {
            return Integer.bitCount(rightHouses());
        }

        // SHUTTERS

        int countShutters() {
            int shutters = 0;
            for (int j = 0; j < MOST_THINGS; j++) {
                shutters += Integer.bitCount(shutInto[j]);
            }
            return shutters;
        }

        int costOf(int i, int j) {
            return distanceOf(i, j) + as[j];
        }

        int keptSeer(int house) {
            int seers = kinds[house] == SHY ? 0 : seersOf(house);
            int kept = NONE;
            int dearest = NONE;
            for (int i = 0; i < count; i++) {
                if (isIn(seers, i) && costOf(i, house) > dearest) {
                    kept = i;
                    dearest = costOf(i, house);
                }
            }
            return kept;
        }

        /** The SEERS that CHEAPEST shuts out. */
        int seersTooMany(int house) {
            int kept = keptSeer(house);
            return kept == NONE ? seersOf(house) : seersOf(house) & ~bit(kept);
        }

        int hopelessHouses() {
            int bits = 0;
            for (int j = 0; j < count; j++) {
                if (isHouseKind(kinds[j]) && kinds[j] != SHY && seersOf(j) == 0) {
                    bits |= bit(j);
                }
            }
            return bits;
        }

        int cheapestShutters() {
            int shutters = 0;
            for (int j = 0; j < count; j++) {
                shutters += Integer.bitCount(seersTooMany(j));
            }
            return shutters;
        }

        int cheapestCost() {
            int sum = 0;
            for (int j = 0; j < count; j++) {
                int tooMany = seersTooMany(j);
                for (int i = 0; i < count; i++) {
                    if (isIn(tooMany, i)) {
                        sum += costOf(i, j);
                    }
                }
            }
            return sum;
        }

        // YEARS

        void passYear() {
            for (int thing = 0; thing < count; thing++) {
                if (isTreeKind(kinds[thing])) {
                    heights[thing] = Math.min(MOST_HEIGHT, heights[thing] + drawGrowth());
                }
            }
            summer = 1 - summer;
            lookAround();
            fines += Integer.bitCount(houses() & ~rightHouses());
        }

        private int drawGrowth() {
            seed = seed * 1103515245 + 12345;
            return (seed >>> 16) % GROWTH;
        }
    }

    /** Reads a GROUND from a ROW and tells it to a Ground, which is spoilt if there is a FAULT. */
    private static final class Reader {
        private static final int WORDS = 5;

        private final Shelf text;
        private final Ground told;
        private int place = 0;
        private int firstDigit = 0;
        int faultPlace = NONE;

        Reader(Shelf text, Ground told) {
            this.text = text;
            this.told = told;
        }

        /** How many ITEMS there are; NONE with a FAULT. */
        int readItems() {
            for (int items = 1; items <= MOST_ELEMENTS; items++) {
                readItem();
                if (faultPlace == NONE && place >= text.size) {
                    return items;
                }
                readSign(';');
                if (faultPlace != NONE) {
                    return NONE;
                }
            }
            return NONE;
        }

        private void readItem() {
            int wordPlace = place;
            switch (readWord()) {
                case 0:
                    readThing(wordPlace);
                    break;
                case 1:
                    told.summer = readNumber(0, 1);
                    break;
                case 2:
                    told.far = readNumber(1, MOST_FAR);
                    break;
                case 3:
                    int seer = readHouse(NONE);
                    tellShut(seer, readHouse(seer));
                    break;
                case 4:
                    tellDrawn(readHouse(NONE));
                    break;
                default:
                    break;
            }
        }

        private void readThing(int wordPlace) {
            if (told.isFull()) {
                faultAt(wordPlace);
                return;
            }
            int kind = readNumber(THING, FIR);
            int x = readNumber(0, MOST_PLACE);
            int y = readNumber(0, MOST_PLACE);
            if (told.thingAt(x, y) != NONE) {
                faultAt(firstDigit);
            }
            int height = readNumber(0, MOST_HEIGHT);
            int a = readNumber(0, MOST_A);
            if (faultPlace == NONE) {
                told.add(kind, x, y, height, a);
            }
        }

        private void tellShut(int i, int j) {
            if (faultPlace == NONE) {
                told.shutInto[j] |= bit(i);
            }
        }

        private void tellDrawn(int house) {
            if (faultPlace == NONE) {
                told.drawn |= bit(house);
            }
        }

        private int readHouse(int unlike) {
            int house = readNumber(0, MOST_THINGS - 1);
            if (!told.isHouse(house) || house == unlike) {
                faultAt(firstDigit);
            }
            return house;
        }

        private int readWord() {
            int most = 0;
            for (int word = 0; word < WORDS; word++) {
                String letters = lettersOf(word);
                int same = sameLetters(letters);
                if (same == letters.length()) {
                    place += same;
                    return word;
                }
                most = Math.max(most, same);
            }
            faultAt(place + most);
            return NONE;
        }

        private static String lettersOf(int word) {
            switch (word) {
                case 0:
                    return "thing";
                case 1:
                    return "summer";
                case 2:
                    return "far";
                case 3:
                    return "shut";
                default:
                    return "draw";
            }
        }

        private int sameLetters(String letters) {
            for (int i = 0; i < letters.length(); i++) {
                if (signAt(place + i) != letters.charAt(i)) {
                    return i;
                }
            }
            return letters.length();
        }

        private void readSign(char sign) {
            if (signAt(place) == sign) {
                place++;
            } else {
                faultAt(place);
            }
        }

        /** A blank and a NUMBER. */
        private int readNumber(int least, int most) {
            readSign(' ');
            firstDigit = place;
            int number = digitAt(place);
            if (number == NONE) {
                faultAt(place);
                return NONE;
            }
            place++;
            int next = digitAt(place);
            if (next != NONE) {
                number = number * 10 + next;
                place++;
            }
            if (number < least || number > most) {
                faultAt(firstDigit);
            }
            return number;
        }

        private int digitAt(int at) {
            int sign = signAt(at);
            return sign >= '0' && sign <= '9' ? sign - '0' : NONE;
        }

        /** NONE, which is no sign of such texts, behind the end. */
        private int signAt(int at) {
            return at >= 0 && at < text.size ? (int) text.elements[at] : NONE;
        }

        /** What is read behind a FAULT may look like another one: the first counts. */
        private void faultAt(int at) {
            if (faultPlace == NONE) {
                faultPlace = at;
            }
        }
    }

    /** The BODIES of ACTS: those of the THING's KIND begin first, those above it end first. */
    private static final class Acts {
        private static final int MOST_KEPT = 20;

        private final int[] bodies = new int[MOST_KEPT];
        private int kind = THING;
        private int m = 0;
        private int k = 0;
        int ran = 0;

        void forget() {
            ran = 0;
        }

        void actor(int itsKind, int itsNumber, int itsA) {
            kind = itsKind;
            m = itsNumber;
            k = itsA;
        }

        int bodyAt(int i) {
            return i >= 0 && i < ran && i < MOST_KEPT ? bodies[i] : NONE;
        }

        private void begins(int body) {
            if (ran < MOST_KEPT) {
                bodies[ran] = body;
            }
            ran++;
        }

        int stands(int x) {
            if (kind == SHY) {
                begins(51);
            }
            if (kind == FIR) {
                begins(70);
            }
            if (isHouseKind(kind)) {
                begins(20);
            }
            begins(10);
            int answer = x + m;
            if (isHouseKind(kind)) {
                answer += k;
            }
            if (kind == SHY) {
                answer -= m;
            }
            return kind == FIR ? answer * 2 : answer;
        }

        int looks(int x) {
            int passed = x;
            if (kind == TOWER) {
                begins(40);
                passed = x + 1;
            }
            if (kind == FIR) {
                begins(71);
                passed = x - k;
            }
            if (isTreeKind(kind)) {
                begins(30);
            }
            begins(11);
            int answer = stands(passed) * 2;
            return isTreeKind(kind) ? answer * 3 : answer;
        }

        int hides(int x) {
            if (kind == SHY) {
                begins(50);
            }
            if (kind == BLIND) {
                begins(60);
            }
            begins(12);
            int answer = looks(x) ^ stands(x - k);
            if (kind == SHY) {
                return -answer;
            }
            return kind == BLIND ? answer ^ 5 : answer;
        }
    }
}
