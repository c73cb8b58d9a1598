/** Runs of drawn calls, each asked of the class and of Plain: the answers must be the same. */
final class RandomRuns {
    private static final int RUNS = 1500;
    private static final int MOST_CALLS = 512;
    /** A text put into a ROW and told, with what is asked behind it. */
    private static final int MOST_CALLS_DRAWN_AT_ONCE = 170;
    private static final int[] ODD = {-1, -2, 7, 8, 9, 10, 20, 21, 100, 160, 161, Integer.MAX_VALUE, Integer.MIN_VALUE};

    private long drawn;
    private final SeenByOne x = new SeenByOne();
    private final Plain y = new Plain();
    private final int wideness;
    private int calls = 0;

    private RandomRuns(int run) {
        drawn = 88172645463325252L + 1000003L * run;
        wideness = 3 + run % 7;
    }

    private int below(int n) {
        drawn ^= drawn << 13;
        drawn ^= drawn >>> 7;
        drawn ^= drawn << 17;
        return (int) Long.remainderUnsigned(drawn, n);
    }

    /** Mostly below n, now and then far from it. */
    private int mostly(int n) {
        return below(12) == 0 ? ODD[below(ODD.length)] : below(n);
    }

    private int thing() {
        return below(12) == 0 ? ODD[below(ODD.length)] : below(Math.max(1, y.status(0)));
    }

    /** Mostly a HOUSE, so that what is asked of HOUSES is seldom refused. */
    private int house() {
        int thing = thing();
        for (int turn = 0; turn < 4 && isNoHouse(thing); turn++) {
            thing = thing();
        }
        return thing;
    }

    private boolean isNoHouse(int thing) {
        return thing >= 0 && thing < y.status(0) && (y.status(1) >> thing & 1) == 0;
    }

    static void ruleAnswersAsPlain() {
        for (int run = 0; run < RUNS; run++) {
            RandomRuns runs = new RandomRuns(run);
            for (int call = 0; runs.calls + MOST_CALLS_DRAWN_AT_ONCE <= MOST_CALLS; call++) {
                int wrongBefore = Due.wrong;
                runs.drawCall(call < 10 ? 8 : runs.below(44), "run " + run + " call " + call + " ");
                if (Due.wrong != wrongBefore) {
                    return;
                }
            }
        }
    }

    private void drawCall(int which, String call) {
        calls += 3;
        if (which < 8) {
            shelves(which, call);
        } else if (which < 15) {
            ground(which, call);
        } else if (which < 25) {
            sights(which, call);
        } else if (which < 34) {
            comes(which, call);
        } else {
            truth(which, call);
        }
        int what = below(20);
        Due.is(call + "status " + what, x.status(what), y.status(what));
    }

    private void shelves(int which, String call) {
        int s = mostly(8);
        int i = mostly(12);
        int j = mostly(12);
        int n = mostly(4);
        switch (which) {
            case 1 -> Due.is(call + "row", x.row(s, n, i), y.row(s, n, i));
            case 2 -> {
                long v = (long) below(1 << 20) << below(60);
                Due.is(call + "set", x.set(s, i, v), y.set(s, i, v));
            }
            case 3 -> {
                int q = mostly(8);
                Due.is(call + "copy", x.copy(s, q, i, j, n), y.copy(s, q, i, j, n));
            }
            case 4 -> Due.is(call + "element", x.element(s, i), y.element(s, i));
            case 5 -> {
                int thing = thing() - below(2);
                Due.is(call + "show", x.show(s, thing), y.show(s, thing));
            }
            case 6 -> Due.is(call + "holds", x.holds(s), y.holds(s));
            default -> {
                int kind = mostly(7);
                Due.is(call + "says", x.says(s, kind), y.says(s, kind));
            }
        }
    }

    private void ground(int which, String call) {
        int h = mostly(8);
        switch (which) {
            case 8 -> {
                int kind = mostly(7);
                int px = mostly(wideness);
                int py = mostly(wideness);
                int a = mostly(5);
                Due.is(call + "thing", x.thing(kind, px, py, h, a), y.thing(kind, px, py, h, a));
            }
            case 9 -> {
                int thing = thing();
                int what = mostly(7);
                Due.is(call + "thingOf", x.thingOf(thing, what), y.thingOf(thing, what));
            }
            case 10 -> {
                int thing = thing();
                Due.is(call + "height", x.height(thing, h), y.height(thing, h));
            }
            case 11 -> {
                int what = mostly(2);
                int v = what == 1 ? mostly(10) : mostly(2);
                Due.is(call + "ask", x.ask(what, v), y.ask(what, v));
            }
            case 12 -> {
                int i = house();
                int j = house();
                boolean is = below(3) > 0;
                Due.is(call + "shut", x.shut(i, j, is), y.shut(i, j, is));
            }
            case 13 -> {
                int house = house();
                boolean is = below(3) > 0;
                Due.is(call + "draw", x.draw(house, is), y.draw(house, is));
            }
            default -> text(call);
        }
    }

    private String item() {
        return switch (below(5)) {
            case 0 -> "thing " + mostly(7) + " " + mostly(wideness) + " " + mostly(wideness) + " " + mostly(21) + " " + mostly(9);
            case 1 -> "summer " + mostly(2);
            case 2 -> "far " + mostly(10);
            case 3 -> "shut 0" + house() + " " + house();
            default -> "draw " + house();
        };
    }

    private void text(String call) {
        StringBuilder text = new StringBuilder(item());
        while (below(3) > 0 && text.length() < 120) {
            text.append(';').append(item());
        }
        if (below(3) == 0) {
            text.setLength(below(text.length() + 1));
        }
        if (below(3) == 0 && text.length() > 0) {
            text.setCharAt(below(text.length()), "0129; tsufadrwhingm-".charAt(below(20)));
        }
        int sort = below(4);
        int size = Math.min(160, text.length());
        Due.is(call + "row", x.row(7, sort, size), y.row(7, sort, size));
        for (int i = 0; i < size; i++) {
            x.set(7, i, text.charAt(i));
            y.set(7, i, text.charAt(i));
        }
        calls += size + 3;
        Due.is(call + "ground '" + text + "'", x.ground(7), y.ground(7));
        Due.is(call + "fault '" + text + "'", x.fault(), y.fault());
        int s = mostly(8);
        Due.is(call + "ground", x.ground(s), y.ground(s));
        Due.is(call + "fault", x.fault(), y.fault());
    }

    private void sights(int which, String call) {
        int i = house();
        int j = house();
        int what = mostly(3);
        switch (which) {
            case 15 -> Due.is(call + "sees", x.sees(i, j, what), y.sees(i, j, what));
            case 16 -> Due.is(call + "bars", x.bars(i, j), y.bars(i, j));
            case 17 -> Due.is(call + "seers", x.seers(i), y.seers(i));
            case 18 -> Due.is(call + "right", x.right(), y.right());
            case 19 -> Due.is(call + "first", x.first(), y.first());
            case 20 -> Due.is(call + "cost", x.cost(i, j), y.cost(i, j));
            case 21 -> Due.is(call + "cheapest", x.cheapest(what), y.cheapest(what));
            case 22 -> Due.is(call + "keeps", x.keeps(i), y.keeps(i));
            default -> {
                int which2 = mostly(4);
                Due.is(call + "curtains " + which2, x.curtains(which2), y.curtains(which2));
            }
        }
    }

    private void comes(int which, String call) {
        int i = house();
        int what = mostly(3);
        switch (which) {
            case 25 -> {
                int h = mostly(21);
                Due.is(call + "newly " + h, x.newly(h), y.newly(h));
            }
            case 26 -> Due.is(call + "storey", x.storey(i), y.storey(i));
            case 27 -> Due.is(call + "blinded", x.blinded(i), y.blinded(i));
            case 28 -> {
                int thing = thing();
                Due.is(call + "felled", x.felled(thing), y.felled(thing));
            }
            case 29 -> Due.is(call + "pairs", x.pairs(), y.pairs());
            case 30 -> Due.is(call + "back", x.back(i), y.back(i));
            case 31 -> Due.is(call + "most", x.most(), y.most());
            case 32 -> list(call, what);
            default -> {
                int right = below(3) == 0 ? mostly(256) : y.right() ^ 1 << below(8);
                right = below(8) == 0 ? right : right & y.status(1);
                Due.is(call + "night", x.night(right), y.night(right));
            }
        }
    }

    /** Told by Plain's own sights, mostly, in either season. */
    private void list(String call, int what) {
        int size = y.status(0) + below(2);
        Due.is(call + "row", x.row(6, 2, size), y.row(6, 2, size));
        int was = y.ask(0, below(2));
        x.ask(0, y.status(2));
        for (int j = 0; j < size; j++) {
            int bits = below(15) == 0 ? 1 << below(9) : 0;
            for (int i = 0; i < y.status(0); i++) {
                boolean houses = i != j && (y.status(1) >> i & y.status(1) >> j & 1) == 1;
                bits ^= houses ? y.sees(i, j, 1) << i : 0;
            }
            x.set(6, j, bits);
            y.set(6, j, bits);
        }
        x.ask(0, was);
        y.ask(0, was);
        calls += size + 3;
        Due.is(call + "list " + what, x.list(6, what), y.list(6, what));
        int s = mostly(8);
        Due.is(call + "list " + what, x.list(s, what), y.list(s, what));
    }

    private void truth(int which, String call) {
        int thing = thing();
        int n = mostly(3);
        int v = below(1 << 30) * 3;
        switch (which) {
            case 34 -> Due.is(call + "shuts", x.shuts(), y.shuts());
            case 35 -> Due.is(call + "opens", x.opens(), y.opens());
            case 36 -> Due.is(call + "years", x.years(n), y.years(n));
            case 37 -> Due.is(call + "seed", x.seed(v), y.seed(v));
            case 38, 39 -> {
                Due.is(call + "act " + n, x.act(thing, n, v), y.act(thing, n, v));
                int i = mostly(9);
                Due.is(call + "trace", x.trace(i), y.trace(i));
            }
            case 40 -> Due.is(call + "image", x.image(), y.image());
            case 41 -> Due.is(call + "restore", x.restore(), y.restore());
            default -> {
                int i = mostly(9);
                Due.is(call + "trace", x.trace(i), y.trace(i));
            }
        }
    }
}
