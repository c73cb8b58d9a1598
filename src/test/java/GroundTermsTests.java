/** Terms, 1. THE GROUND: each bound that it names, on both sides. Its words stand above each test. */
final class GroundTermsTests {
    private GroundTermsTests() {
    }

    /** "THINGS have numbers, from 0 on, 8 at most" */
    static void terms1EightThingsAtMost() {
        SeenByOne x = new SeenByOne();
        Due.is("none", x.status(0), 0);
        Due.is("THING 0 isn't there yet", x.thingOf(0, 0), -5);
        for (int n = 0; n < 8; n++) {
            Due.is("thing " + n, x.thing(0, n, 9 - n, n, n), n);
            Due.is("how many", x.status(0), n + 1);
            Due.is("it is there", x.thingOf(n, 1), n);
            Due.is("the next isn't", x.thingOf(n + 1, 1), -5);
        }
        Due.is("the ninth", x.thing(0, 9, 9, 0, 0), -7);
        Due.is("how many", x.status(0), 8);
    }

    /** The last of 8 THINGS may be asked of, as every other one. */
    static void terms1TheLastThing() {
        SeenByOne x = Due.told(Due.EIGHT);
        Due.is("height(7, 4)", x.height(7, 4), 3);
        Due.is("height(7, 3)", x.height(7, 3), 4);
        Due.is("show(7, 7)", x.show(7, 7), 1);
        Due.is("says(7, 1)", x.says(7, 1), 7);
        Due.is("seers(7)", x.seers(7), 127);
        Due.is("sees(7, 0, 1)", x.sees(7, 0, 1), 1);
        Due.is("sees(0, 7, 0)", x.sees(0, 7, 0), 1);
        Due.is("bars(7, 6)", x.bars(7, 6), -1);
        Due.is("cost(0, 7)", x.cost(0, 7), 4);
        Due.is("keeps(7)", x.keeps(7), 0);
        Due.is("storey(7)", x.storey(7), 0);
        Due.is("blinded(7)", x.blinded(7), 0);
        Due.is("back(7)", x.back(7), -1);
        Due.is("felled(7)", x.felled(7), -1002);
        Due.is("shut(7, 6, true)", x.shut(7, 6, true), 1);
        Due.is("shut(6, 7, true)", x.shut(6, 7, true), 1);
        Due.is("draw(7, true)", x.draw(7, true), 1);
        Due.is("act(7, 0, 0)", x.act(7, 0, 0), 7 + 1);
        Due.is("how many", x.status(4) + x.status(5), 3);
    }

    /** "each of a KIND: 0 THING (a wall); 1 HOUSE, 2 TREE, .. 6 FIR" */
    static void terms1KindsZeroToSix() {
        SeenByOne x = new SeenByOne();
        Due.is("KIND -1", x.thing(-1, 9, 9, 1, 1), -1);
        Due.is("KIND 7", x.thing(7, 9, 9, 1, 1), -1);
        for (int kind = 0; kind < 7; kind++) {
            Due.is("KIND " + kind, x.thing(kind, kind, 0, 1, 1), kind);
            Due.is("KIND " + kind, x.thingOf(kind, 0), kind);
        }
        Due.is("HOUSES", x.status(1), 2 + 8 + 16 + 32);
    }

    /** "1 HOUSE, 2 TREE, each under THING; 3 TOWER, 4 SHY, 5 BLIND, each under HOUSE; 6 FIR, under TREE" */
    static void terms1KindsUnderOthers() {
        String[] takenFor = {"y------", "yy-----", "y-y----", "yy-y---", "yy--y--", "yy---y-", "y-y---y"};
        SeenByOne x = new SeenByOne();
        for (int kind = 0; kind < 7; kind++) {
            x.thing(kind, kind, 0, 1, 1);
            x.show(kind, kind);
            for (int wanted = 0; wanted < 7; wanted++) {
                boolean may = takenFor[kind].charAt(wanted) == 'y';
                Due.is("KIND " + kind + " for " + wanted, x.says(kind, wanted) == -2 ? 0 : 1, may ? 1 : 0);
            }
        }
    }

    private interface Ask {
        int of(SeenByOne x, int v);
    }

    /** From least to most it is answered, one less and one more is -6. */
    private static void bounds(String what, int least, int most, Ask ask) {
        for (int v = least; v <= most; v++) {
            Due.is(what + " " + v, ask.of(new SeenByOne(), v) >= 0 ? 1 : 0, 1);
        }
        int[] wrong = {least - 1, most + 1, -most, 100, Integer.MIN_VALUE, Integer.MAX_VALUE};
        for (int v : wrong) {
            if (v < least || v > most) {
                Due.is(what + " " + v, ask.of(new SeenByOne(), v), -6);
            }
        }
    }

    /** "at a PLACE: X, Y (0 to 9 each)" */
    static void terms1PlaceZeroToNine() {
        bounds("X", 0, 9, (x, v) -> x.thing(1, v, 4, 3, 2));
        bounds("Y", 0, 9, (x, v) -> x.thing(1, 4, v, 3, 2));
    }

    /** "HEIGHT (0 to 20)" */
    static void terms1HeightZeroToTwenty() {
        bounds("HEIGHT", 0, 20, (x, v) -> x.thing(1, 4, 4, v, 2));
        bounds("HEIGHT becomes", 0, 20, (x, v) -> {
            x.thing(2, 4, 4, 7, 2);
            int was = x.height(0, v);
            Due.is("HEIGHT behind height(0, " + v + ")", x.thingOf(0, 3), was == 7 ? v : 7);
            return was;
        });
    }

    /** "a (0 to 9)" */
    static void terms1AZeroToNine() {
        bounds("a", 0, 9, (x, v) -> x.thing(1, 4, 4, 3, v));
    }

    /** "SUMMER (0 or 1; 1 at first)" */
    static void terms1SummerZeroOrOne() {
        Due.is("at first", new SeenByOne().status(2), 1);
        bounds("SUMMER", 0, 1, (x, v) -> x.ask(0, v));
    }

    /** "FAR (1 to 9; 9 at first)" */
    static void terms1FarOneToNine() {
        Due.is("at first", new SeenByOne().status(3), 9);
        bounds("FAR", 1, 9, (x, v) -> x.ask(1, v));
    }

    /** "one THING at a PLACE": of each KIND, wherever; another X or another Y is another PLACE. */
    static void terms1OneThingAtAPlace() {
        int[][] places = {{0, 0}, {9, 0}, {0, 9}, {9, 9}, {3, 4}, {4, 3}, {3, 3}, {4, 4}};
        SeenByOne x = new SeenByOne();
        for (int n = 0; n < 7; n++) {
            Due.is("free", x.thing(n, places[n][0], places[n][1], n, n), n);
            for (int taken = 0; taken <= n; taken++) {
                Due.is("taken", x.thing(6 - n, places[taken][0], places[taken][1], 1, 1), -6);
            }
        }
        Due.is("how many", x.status(0), 7);
        Due.is("free to the last", x.thing(0, places[7][0], places[7][1], 1, 1), 7);
    }

    /** "SHUT: of each pair of HOUSES whether a shutter is let down .. (at first not)" */
    static void terms1ShutOfEachPair() {
        SeenByOne x = Due.told(Due.EIGHT);
        for (int i = 0; i < 8; i++) {
            for (int j = 0; j < 8; j++) {
                if (i != j) {
                    Due.is("at first not", x.shut(i, j, false), 0);
                    Due.is("shut", x.shut(i, j, true), 1);
                    Due.is("of all sights into " + j + " just " + i + "'s", x.seers(j), 255 & ~(1 << i | 1 << j));
                    Due.is("none into " + i, x.seers(i), 255 & ~(1 << i));
                    Due.is("SHUTTERS", x.status(4), 1);
                    Due.is("up again", x.shut(i, j, false), 1);
                }
            }
        }
    }

    /** SHUTTERS: none, and as many as there may be. */
    static void terms1AllSightsShut() {
        SeenByOne x = Due.told(Due.EIGHT);
        Due.is("none", x.status(4), 0);
        for (int i = 0; i < 8; i++) {
            for (int j = 0; j < 8; j++) {
                Due.is("shut", x.shut(i, j, true), i == j ? -6 : 1);
            }
        }
        Due.is("all", x.status(4), 56);
        for (int house = 0; house < 8; house++) {
            x.draw(house, true);
        }
        for (int house = 0; house < 8; house++) {
            Due.is("SEERS", x.seers(house), 0);
        }
        Due.is("opens(), curtains too", x.opens(), 56 + 8);
        Due.is("none", x.status(4), 0);
        Due.is("opens() of none", x.opens(), 0);
    }

    /** "DRAWN: of each HOUSE whether its curtain is (it sees nothing then; at first not)" */
    static void terms1DrawnOfEachHouse() {
        SeenByOne x = Due.told(Due.EIGHT);
        Due.is("none", x.status(5), 0);
        for (int house = 0; house < 8; house++) {
            Due.is("at first not", x.thingOf(house, 6), 0);
            Due.is("draw", x.draw(house, true), 1);
            Due.is("it is", x.thingOf(house, 6), 1);
            for (int j = 0; j < 8; j++) {
                Due.is("it sees nothing, all others all", x.seers(j), 255 & ~(1 << house | 1 << j));
            }
            Due.is("curtains", x.status(5), 1);
            Due.is("back", x.draw(house, false), 1);
        }
        for (int house = 0; house < 8; house++) {
            x.draw(house, true);
        }
        Due.is("all", x.status(5), 8);
        Due.is("opens()", x.opens(), 8);
        Due.is("none", x.status(5), 0);
    }
}
