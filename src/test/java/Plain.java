import java.util.ArrayList;
import java.util.List;
import java.util.TreeSet;
import java.util.regex.Matcher;
import java.util.regex.Pattern;

/**
 * The document told a second time, in other words than the class under test: THINGS are objects,
 * ACTS are bodies with super, sights and curtains are sets, texts are read by patterns.
 */
final class Plain {
    /** A REFUSAL on its way to the call that answers it. */
    private static final class Refusal extends RuntimeException {
        private static final long serialVersionUID = 1;
        final int code;

        Refusal(int code) {
            super("refused", null, false, false);
            this.code = code;
        }
    }

    static class Wall {
        int kind, number, x, y, height, a;
        List<Integer> trace;

        int tall(boolean summer) { return height; }
        int stands(int arg) { trace.add(10); return arg + number; }
        int looks(int arg) { trace.add(11); return stands(arg) * 2; }
        int hides(int arg) { trace.add(12); return looks(arg) ^ stands(arg - a); }
    }

    static class House extends Wall {
        int eyes() { return height; }
        boolean hasEyes() { return true; }
        boolean countsAsSeer() { return true; }
        int seersWanted() { return 1; }
        @Override int stands(int arg) { trace.add(20); return super.stands(arg) + a; }
    }

    static final class Tower extends House {
        @Override int eyes() { return height + a; }
        @Override boolean countsAsSeer() { return false; }
        @Override int looks(int arg) { trace.add(40); return super.looks(arg + 1); }
    }

    static final class Shy extends House {
        @Override int seersWanted() { return 0; }
        @Override int hides(int arg) { trace.add(50); return -super.hides(arg); }
        @Override int stands(int arg) { trace.add(51); return super.stands(arg) - number; }
    }

    static final class Blind extends House {
        @Override boolean hasEyes() { return false; }
        @Override int hides(int arg) { trace.add(60); return super.hides(arg) ^ 5; }
    }

    static class Tree extends Wall {
        @Override int tall(boolean summer) { return summer ? height + a : 0; }
        @Override int looks(int arg) { trace.add(30); return super.looks(arg) * 3; }
    }

    static final class Fir extends Tree {
        @Override int tall(boolean summer) { return height + a; }
        @Override int stands(int arg) { trace.add(70); return super.stands(arg) * 2; }
        @Override int looks(int arg) { trace.add(71); return super.looks(arg - a); }
    }

    private static final Class<?>[] KINDS = {
        Wall.class, House.class, Tree.class, Tower.class, Shy.class, Blind.class, Fir.class,
    };

    private static Wall made(int kind, int number, int x, int y, int height, int a) {
        Wall thing = switch (kind) {
            case 1 -> new House();
            case 2 -> new Tree();
            case 3 -> new Tower();
            case 4 -> new Shy();
            case 5 -> new Blind();
            case 6 -> new Fir();
            default -> new Wall();
        };
        thing.kind = kind;
        thing.number = number;
        thing.x = x;
        thing.y = y;
        thing.height = height;
        thing.a = a;
        return thing;
    }

    /** All that THE IMAGE is of. Sights are told as 10 times the one that sees and the one seen. */
    private static final class State {
        final List<Wall> things = new ArrayList<>();
        final TreeSet<Integer> shut = new TreeSet<>();
        final TreeSet<Integer> drawn = new TreeSet<>();
        boolean summer = true;
        int far = 9;
        int fines = 0;
        int seed = 1;

        State copy() {
            State copy = new State();
            for (Wall t : things) {
                copy.things.add(made(t.kind, t.number, t.x, t.y, t.height, t.a));
            }
            copy.shut.addAll(shut);
            copy.drawn.addAll(drawn);
            copy.summer = summer;
            copy.far = far;
            copy.fines = fines;
            copy.seed = seed;
            return copy;
        }

        List<House> houses() {
            List<House> houses = new ArrayList<>();
            for (Wall t : things) {
                if (t instanceof House house) {
                    houses.add(house);
                }
            }
            return houses;
        }

        boolean taken(int x, int y) {
            return things.stream().anyMatch(t -> t.x == x && t.y == y);
        }

        static int distance(Wall p, Wall q) {
            return Math.max(Math.abs(p.x - q.x), Math.abs(p.y - q.y));
        }

        /** By crosswise products and DISTANCES instead of parts of the line. */
        Wall bar(House from, House into) {
            int whole = distance(from, into);
            for (Wall t : things) {
                int cross = (into.x - from.x) * (t.y - from.y) - (into.y - from.y) * (t.x - from.x);
                int near = distance(from, t);
                boolean between = cross == 0 && near > 0 && near < whole && near + distance(t, into) == whole;
                boolean over = t.tall(summer) * whole > from.eyes() * (whole - near) + into.height * near;
                if (between && over) {
                    return t;
                }
            }
            return null;
        }

        boolean looks(House i, House j) {
            return i.number != j.number && i.hasEyes() && distance(i, j) <= far && bar(i, j) == null;
        }

        boolean sees(House i, House j) {
            return looks(i, j) && !drawn.contains(i.number) && !shut.contains(10 * i.number + j.number);
        }

        List<House> seers(House j) {
            List<House> seers = new ArrayList<>();
            for (House i : houses()) {
                if (i.countsAsSeer() && sees(i, j)) {
                    seers.add(i);
                }
            }
            return seers;
        }

        boolean isRight(House j) {
            return seers(j).size() == j.seersWanted();
        }

        int right() {
            int bits = 0;
            for (House j : houses()) {
                bits |= isRight(j) ? 1 << j.number : 0;
            }
            return bits;
        }

        TreeSet<Integer> allSights() {
            TreeSet<Integer> sights = new TreeSet<>();
            for (House i : houses()) {
                for (House j : houses()) {
                    if (sees(i, j)) {
                        sights.add(10 * i.number + j.number);
                    }
                }
            }
            return sights;
        }

        int cost(House i, House j) {
            return distance(i, j) + j.a;
        }

        House kept(House j) {
            House kept = null;
            for (House i : seers(j)) {
                if (j.seersWanted() == 1 && (kept == null || cost(i, j) > cost(kept, j))) {
                    kept = i;
                }
            }
            return kept;
        }

        int draw(int n) {
            seed = seed * 1103515245 + 12345;
            int upper = (int) ((seed & 0xffffffffL) / 65536);
            return upper % n;
        }
    }

    private final Object[] shelves = new Object[8];
    private State now = new State();
    private State image = null;
    private final int[] refusals = new int[8];
    private int fault = -1;
    private List<Integer> trace = new ArrayList<>();

    private static final class Row {
        final int sort;
        final long[] elements;

        Row(int sort, int n) {
            this.sort = sort;
            this.elements = new long[n];
        }
    }

    private interface Call {
        int answer();
    }

    private int call(int shift, Call call) {
        try {
            return call.answer();
        } catch (Refusal refusal) {
            refusals[-refusal.code]++;
            return refusal.code - shift;
        }
    }

    private static void refuse(boolean when, int code) {
        if (when) {
            throw new Refusal(code);
        }
    }

    private static boolean in(int v, int least, int most) {
        return least <= v && v <= most;
    }

    private Wall thing(int number) {
        refuse(!in(number, 0, now.things.size() - 1), -1);
        return now.things.get(number);
    }

    private House house(int number) {
        Wall thing = thing(number);
        refuse(!(thing instanceof House), -2);
        return (House) thing;
    }

    private void twoHouses(int i, int j) {
        thing(i);
        thing(j);
        house(i);
        house(j);
    }

    private Row rowIn(int s) {
        refuse(!in(s, 0, 7), -1);
        refuse(shelves[s] instanceof Integer, -2);
        refuse(shelves[s] == null, -3);
        return (Row) shelves[s];
    }

    int row(int s, int sort, int n) {
        return call(0, () -> {
            refuse(!in(s, 0, 7), -1);
            refuse(n < 0, -4);
            refuse(!in(sort, 0, 3), -6);
            refuse(n > 160, -7);
            shelves[s] = new Row(sort, n);
            return 1;
        });
    }

    int set(int s, int i, long v) {
        return call(0, () -> {
            Row row = rowIn(s);
            refuse(!in(i, 0, row.elements.length - 1), -5);
            int bits = 64 - (8 << row.sort);
            row.elements[i] = v << bits >> bits;
            return 1;
        });
    }

    int copy(int p, int q, int i, int j, int n) {
        return call(0, () -> {
            refuse(!in(p, 0, 7) || !in(q, 0, 7), -1);
            refuse(shelves[p] instanceof Integer || shelves[q] instanceof Integer, -2);
            boolean both = shelves[p] != null && shelves[q] != null;
            refuse(both && rowIn(p).sort != rowIn(q).sort, -2);
            refuse(!both, -3);
            refuse(n < 0, -4);
            refuse(i < 0 || j < 0, -5);
            refuse((long) i + n > rowIn(p).elements.length || (long) j + n > rowIn(q).elements.length, -5);
            long[] ahead = rowIn(p).elements.clone();
            for (int e = 0; e < n; e++) {
                rowIn(q).elements[j + e] = ahead[i + e];
            }
            return 1;
        });
    }

    long element(int s, int i) {
        boolean there = in(s, 0, 7) && shelves[s] instanceof Row row && in(i, 0, row.elements.length - 1);
        return there ? ((Row) shelves[s]).elements[i] : 0;
    }

    int show(int s, int thing) {
        return call(0, () -> {
            refuse(!in(s, 0, 7) || !in(thing, -1, now.things.size() - 1), -1);
            shelves[s] = thing == -1 ? null : (Object) thing;
            return thing == -1 ? 0 : 1;
        });
    }

    int holds(int s) {
        if (!in(s, 0, 7) || shelves[s] == null) {
            return -1;
        }
        return shelves[s] instanceof Row row ? 100 + row.sort : (Integer) shelves[s];
    }

    int says(int s, int kind) {
        return call(0, () -> {
            refuse(!in(s, 0, 7) || !in(kind, 0, 6), -1);
            refuse(shelves[s] instanceof Row, -2);
            refuse(shelves[s] == null, -3);
            Wall thing = now.things.get((Integer) shelves[s]);
            refuse(!KINDS[kind].isInstance(thing), -2);
            return switch (kind) {
                case 0 -> thing.tall(now.summer);
                case 1 -> now.seers((House) thing).size();
                case 2 -> Math.max(0, thing.tall(now.summer) - thing.height);
                case 3 -> ((House) thing).eyes();
                case 4 -> now.isRight((House) thing) ? 1 : 0;
                case 6 -> thing.a;
                default -> 0;
            };
        });
    }

    int thing(int kind, int x, int y, int height, int a) {
        return call(0, () -> {
            refuse(!in(kind, 0, 6), -1);
            refuse(!in(x, 0, 9) || !in(y, 0, 9) || !in(height, 0, 20) || !in(a, 0, 9), -6);
            refuse(now.taken(x, y), -6);
            refuse(now.things.size() == 8, -7);
            now.things.add(made(kind, now.things.size(), x, y, height, a));
            return now.things.size() - 1;
        });
    }

    int thingOf(int thing, int what) {
        return call(0, () -> {
            refuse(!in(thing, 0, now.things.size() - 1) || !in(what, 0, 6), -5);
            Wall t = now.things.get(thing);
            int drawn = now.drawn.contains(thing) ? 1 : 0;
            return new int[] {t.kind, t.x, t.y, t.height, t.a, t.tall(now.summer), drawn}[what];
        });
    }

    int height(int thing, int v) {
        return call(0, () -> {
            Wall t = thing(thing);
            refuse(!in(v, 0, 20), -6);
            int was = t.height;
            t.height = v;
            return was;
        });
    }

    int ask(int what, int v) {
        return call(0, () -> {
            refuse(!in(what, 0, 1) || !in(v, what, what == 0 ? 1 : 9), -6);
            int was = what == 1 ? now.far : now.summer ? 1 : 0;
            if (what == 0) {
                now.summer = v == 1;
            } else {
                now.far = v;
            }
            return was;
        });
    }

    private static int changed(TreeSet<Integer> set, int member, boolean is) {
        return (is ? set.add(member) : set.remove(member)) ? 1 : 0;
    }

    int shut(int i, int j, boolean is) {
        return call(0, () -> {
            twoHouses(i, j);
            refuse(i == j, -6);
            return changed(now.shut, 10 * i + j, is);
        });
    }

    int draw(int house, boolean is) {
        return call(0, () -> {
            house(house);
            return changed(now.drawn, house, is);
        });
    }

    private static final Pattern ITEM = Pattern.compile(
        "(thing)( \\d{1,2})( \\d{1,2})( \\d{1,2})( \\d{1,2})( \\d{1,2})|(summer|far|draw)( \\d{1,2})"
        + "|(shut)( \\d{1,2})( \\d{1,2})");
    private static final Pattern GROUND = Pattern.compile("(?:" + ITEM + ")(?:;(?:" + ITEM + "))*");
    private static final Pattern TOKEN = Pattern.compile("thing|summer|far|draw|shut|(?<= )\\d{1,2}|;");

    private static boolean canGoOn(String text) {
        Matcher matcher = GROUND.matcher(text);
        return matcher.matches() || matcher.hitEnd() && !text.isEmpty() || text.isEmpty();
    }

    /** Up to where the letters are those of such texts; NONE if all are, and the text is whole. */
    private static int faultOfLetters(String text) {
        for (int end = 1; end <= text.length(); end++) {
            if (!canGoOn(text.substring(0, end))) {
                return end - 1;
            }
        }
        return GROUND.matcher(text).matches() ? -1 : text.length();
    }

    int ground(int s) {
        return call(0, () -> {
            Row row = rowIn(s);
            StringBuilder text = new StringBuilder();
            for (long element : row.elements) {
                int sign = (int) element;
                text.append(sign >= ' ' && sign <= '~' ? (char) sign : '~');
            }
            int letters = faultOfLetters(text.toString());
            State told = now.copy();
            int meaning = tellUpTo(told, letters < 0 ? text.toString() : text.substring(0, letters));
            fault = meaning >= 0 ? meaning : letters;
            refuse(fault >= 0, -6);
            now = told;
            return text.toString().split(";").length;
        });
    }

    /** Tells what stands whole; the place of the first word or NUMBER that may not be, or -1. */
    private static int tellUpTo(State told, String good) {
        Matcher token = TOKEN.matcher(good);
        String word = "";
        List<Integer> numbers = new ArrayList<>();
        while (token.find()) {
            String sign = token.group();
            if (sign.equals(";")) {
                continue;
            }
            if (Character.isDigit(sign.charAt(0))) {
                numbers.add(Integer.parseInt(sign));
            } else {
                word = sign;
                numbers.clear();
            }
            if (!may(told, word, numbers)) {
                return token.start();
            }
            tell(told, word, numbers);
        }
        return -1;
    }

    private static boolean isHouse(State told, int number) {
        return number < told.things.size() && told.things.get(number) instanceof House;
    }

    /** Whether the latest of the NUMBERS may be, or the word if there is none yet. */
    private static boolean may(State told, String word, List<Integer> numbers) {
        int at = numbers.size() - 1;
        int latest = at < 0 ? 0 : numbers.get(at);
        if (at < 0) {
            return !word.equals("thing") || told.things.size() < 8;
        }
        return switch (word) {
            case "thing" -> latest <= new int[] {6, 9, 9, 20, 9}[at] && !(at == 2 && told.taken(numbers.get(1), latest));
            case "summer" -> latest <= 1;
            case "far" -> in(latest, 1, 9);
            case "shut" -> isHouse(told, latest) && !(at == 1 && numbers.get(0) == latest);
            default -> isHouse(told, latest);
        };
    }

    private static void tell(State told, String word, List<Integer> n) {
        if (word.equals("thing") && n.size() == 5) {
            told.things.add(made(n.get(0), told.things.size(), n.get(1), n.get(2), n.get(3), n.get(4)));
        }
        if (word.equals("summer") && n.size() == 1) {
            told.summer = n.get(0) == 1;
        }
        if (word.equals("far") && n.size() == 1) {
            told.far = n.get(0);
        }
        if (word.equals("shut") && n.size() == 2) {
            told.shut.add(10 * n.get(0) + n.get(1));
        }
        if (word.equals("draw") && n.size() == 1) {
            told.drawn.add(n.get(0));
        }
    }

    int fault() {
        return fault;
    }

    int sees(int i, int j, int what) {
        return call(0, () -> {
            twoHouses(i, j);
            refuse(!in(what, 0, 1), -5);
            refuse(i == j, -6);
            boolean is = what == 0 ? now.looks(house(i), house(j)) : now.sees(house(i), house(j));
            return is ? 1 : 0;
        });
    }

    int bars(int i, int j) {
        return call(10, () -> {
            twoHouses(i, j);
            refuse(i == j, -6);
            Wall bar = now.bar(house(i), house(j));
            return bar == null ? -1 : bar.number;
        });
    }

    int seers(int house) {
        return call(0, () -> now.seers(house(house)).stream().mapToInt(i -> 1 << i.number).sum());
    }

    int right() {
        return now.right();
    }

    int first() {
        return now.houses().stream().filter(j -> !now.isRight(j)).mapToInt(j -> j.number).findFirst().orElse(-1);
    }

    int cost(int i, int j) {
        return call(0, () -> {
            twoHouses(i, j);
            refuse(i == j, -6);
            return now.cost(house(i), house(j));
        });
    }

    /** COST, those that can't be, SHUTTERS; with the SHUTTERS themselves put into a set. */
    private int[] cheapest(TreeSet<Integer> shutters) {
        int[] answers = new int[3];
        for (House j : now.houses()) {
            House kept = now.kept(j);
            if (kept == null && j.seersWanted() == 1) {
                answers[1] += 1 << j.number;
            }
            for (House i : now.seers(j)) {
                if (i != kept) {
                    answers[0] += now.cost(i, j);
                    answers[2]++;
                    shutters.add(10 * i.number + j.number);
                }
            }
        }
        return answers;
    }

    int cheapest(int what) {
        return call(0, () -> {
            refuse(!in(what, 0, 2), -5);
            return cheapest(new TreeSet<>())[what];
        });
    }

    int keeps(int house) {
        return call(10, () -> {
            House kept = now.kept(house(house));
            return kept == null ? -1 : kept.number;
        });
    }

    private static int rightWith(State state, int set, boolean summer) {
        State with = state.copy();
        with.summer = summer;
        with.drawn.clear();
        for (int i = 0; i < 8; i++) {
            if ((set >> i & 1) == 1) {
                with.drawn.add(i);
            }
        }
        return Integer.bitCount(with.right());
    }

    int curtains(int what) {
        return call(0, () -> {
            refuse(!in(what, 0, 3), -5);
            int houses = status(1);
            long best = Long.MIN_VALUE;
            for (int set = 0; set < 256; set++) {
                if ((set | houses) == houses) {
                    int right = what < 2 ? rightWith(now, set, now.summer)
                        : rightWith(now, set, true) + rightWith(now, set, false);
                    best = Math.max(best, right * 1000000L - Integer.bitCount(set) * 1000L - set);
                }
            }
            int right = (int) ((best + 999999) / 1000000);
            int rest = (int) (right * 1000000L - best);
            return what % 2 == 0 ? rest % 1000 : right;
        });
    }

    int newly(int h) {
        return call(0, () -> {
            refuse(!in(h, 0, 20), -6);
            refuse(now.things.size() == 8, -7);
            int best = -1;
            int place = -1;
            for (int at = 0; at < 100; at++) {
                if (!now.taken(at % 10, at / 10)) {
                    State with = now.copy();
                    with.things.add(made(1, with.things.size(), at % 10, at / 10, h, 0));
                    int right = Integer.bitCount(with.right());
                    place = right > best ? at : place;
                    best = Math.max(best, right);
                }
            }
            return place;
        });
    }

    private State withStorey(int house) {
        refuse(house(house).height == 20, -6);
        State with = now.copy();
        with.things.get(house).height++;
        return with;
    }

    int storey(int house) {
        return call(1000, () -> Integer.bitCount(withStorey(house).right()) - Integer.bitCount(now.right()));
    }

    int blinded(int house) {
        return call(0, () -> {
            TreeSet<Integer> lost = now.allSights();
            lost.removeAll(withStorey(house).allSights());
            return lost.size();
        });
    }

    int felled(int thing) {
        return call(1000, () -> {
            refuse(thing(thing) instanceof House, -2);
            State with = now.copy();
            with.things.removeIf(t -> t.number == thing);
            return Integer.bitCount(with.right()) - Integer.bitCount(now.right());
        });
    }

    int pairs() {
        TreeSet<Integer> sights = now.allSights();
        return (int) sights.stream().filter(sight -> sights.contains(sight % 10 * 10 + sight / 10)).count() / 2;
    }

    int back(int house) {
        return call(10, () -> {
            House at = house(house);
            for (int steps = 1; steps < 9; steps++) {
                List<House> seers = now.seers(at);
                if (seers.isEmpty()) {
                    return -1;
                }
                at = seers.get(0);
                if (at.number == house) {
                    return steps;
                }
            }
            return -1;
        });
    }

    int most() {
        return call(0, () -> {
            refuse(now.houses().isEmpty(), -5);
            int[] seen = new int[8];
            for (int sight : now.allSights()) {
                seen[sight / 10]++;
            }
            House best = now.houses().get(0);
            for (House i : now.houses()) {
                best = seen[i.number] > seen[best.number] ? i : best;
            }
            return best.number;
        });
    }

    private static List<Integer> unlike(State state, Row told) {
        List<Integer> unlike = new ArrayList<>();
        TreeSet<Integer> sights = state.allSights();
        for (int j = 0; j < state.things.size(); j++) {
            for (int i = 0; i < state.things.size(); i++) {
                boolean toldSo = ((int) told.elements[j] >> i & 1) == 1;
                if (toldSo != sights.contains(10 * i + j)) {
                    unlike.add(j);
                }
            }
        }
        return unlike;
    }

    int list(int s, int what) {
        return call(10, () -> {
            Row told = rowIn(s);
            refuse(told.elements.length < now.things.size() || !in(what, 0, 2), -5);
            List<Integer> unlike = unlike(now, told);
            if (what == 0) {
                return unlike.isEmpty() ? -1 : unlike.get(0);
            }
            if (what == 1) {
                return unlike.size();
            }
            State season = now.copy();
            season.summer = true;
            int fits = unlike(season, told).isEmpty() ? 1 : 0;
            season.summer = false;
            return fits + (unlike(season, told).isEmpty() ? 2 : 0);
        });
    }

    int night(int right) {
        return call(0, () -> {
            refuse((right | status(1)) != status(1), -6);
            int movers = 0;
            for (House house : now.houses()) {
                State with = now.copy();
                changed(with.drawn, house.number, !now.drawn.contains(house.number));
                movers += with.right() == right ? 1 << house.number : 0;
            }
            return movers;
        });
    }

    int shuts() {
        return call(0, () -> {
            TreeSet<Integer> shutters = new TreeSet<>();
            int[] cheapest = cheapest(shutters);
            refuse(cheapest[1] != 0, -6);
            now.shut.addAll(shutters);
            return cheapest[0];
        });
    }

    int opens() {
        int were = now.shut.size() + now.drawn.size();
        now.shut.clear();
        now.drawn.clear();
        return were;
    }

    int years(int n) {
        return call(0, () -> {
            refuse(!in(n, 1, 30), -6);
            int fines = 0;
            for (int year = 0; year < n; year++) {
                for (Wall t : now.things) {
                    if (t instanceof Tree) {
                        t.height = Math.min(20, t.height + now.draw(3));
                    }
                }
                now.summer = !now.summer;
                fines += now.houses().size() - Integer.bitCount(now.right());
            }
            now.fines += fines;
            return fines;
        });
    }

    int seed(int v) {
        int was = now.seed;
        now.seed = v;
        return was;
    }

    int act(int thing, int act, int x) {
        trace = new ArrayList<>();
        if (!in(thing, 0, now.things.size() - 1) || !in(act, 0, 2)) {
            return 0;
        }
        Wall actor = now.things.get(thing);
        actor.trace = trace;
        return act == 0 ? actor.stands(x) : act == 1 ? actor.looks(x) : actor.hides(x);
    }

    int trace(int i) {
        return in(i, 0, Math.min(19, trace.size() - 1)) ? trace.get(i) : -1;
    }

    int image() {
        image = now.copy();
        return now.things.size();
    }

    int restore() {
        return call(0, () -> {
            refuse(image == null, -6);
            now = image.copy();
            for (int s = 0; s < 8; s++) {
                if (shelves[s] instanceof Integer number && number >= now.things.size()) {
                    shelves[s] = null;
                }
            }
            return now.things.size();
        });
    }

    int status(int what) {
        if (in(what, 11, 17)) {
            return refusals[what - 10];
        }
        return switch (what) {
            case 0 -> now.things.size();
            case 1 -> now.houses().stream().mapToInt(house -> 1 << house.number).sum();
            case 2 -> now.summer ? 1 : 0;
            case 3 -> now.far;
            case 4 -> now.shut.size();
            case 5 -> now.drawn.size();
            case 6 -> now.fines;
            case 7 -> now.seed;
            case 8 -> trace.size();
            default -> -1;
        };
    }
}
