/** Terms, 3. WHAT COMES OF IT, what it says of HOUSES: each bound, on both sides. Its words stand above each test. */
final class ComesTermsTests {
    private static final String ONE = "thing 1 5 5 3 1";
    private static final String ONE_SHY = "thing 4 5 5 3 1";
    private static final String TWO = "thing 1 0 0 3 0;thing 1 1 0 3 0";

    private ComesTermsTests() {
    }

    private static SeenByOne eightShy() {
        return Due.told(Due.EIGHT.replace("thing 1", "thing 4"));
    }

    /** "COST of shutting a sight: DISTANCE, and a of the one that is seen": the least and the most. */
    static void terms3CostLeastAndMost() {
        SeenByOne x = Due.told("thing 1 0 0 3 0;thing 1 1 1 3 9;thing 1 9 5 3 9;thing 1 9 9 3 0");
        Due.is("DISTANCE 1, a 0", x.cost(1, 0), 1);
        Due.is("DISTANCE 1, a 9", x.cost(0, 1), 10);
        Due.is("DISTANCE 9, a 9", x.cost(0, 2), 18);
        Due.is("DISTANCE 9, a 0", x.cost(2, 0), 9);
        Due.is("DISTANCE 9 both ways", x.cost(0, 3), 9);
        x.ask(1, 1);
        x.shut(0, 2, true);
        x.draw(0, true);
        Due.is("of a sight that isn't", x.cost(0, 2), 18);
    }

    /** "CHEAPEST": no HOUSE, one, two that are RIGHT, as many as there may be. */
    static void terms3CheapestOfNoneToEight() {
        Due.cheapest(new SeenByOne(), 0, 0, 0);
        Due.cheapest(Due.told("thing 0 0 0 1 1;thing 2 1 1 1 1"), 0, 0, 0);
        Due.cheapest(Due.told(ONE), 0, 1, 0);
        Due.cheapest(Due.told(ONE_SHY), 0, 0, 0);
        Due.cheapest(Due.told(TWO), 0, 0, 0);
        Due.cheapest(Due.told(Due.EIGHT), 116, 0, 48);
        Due.cheapest(eightShy(), 2 * (13 + 9 + 9 + 13) + 56, 0, 56);
        SeenByOne x = Due.told(Due.EIGHT + ";far 1");
        for (int house = 0; house < 8; house++) {
            x.draw(house, true);
        }
        Due.cheapest(x, 0, 255, 0);
    }

    /** "those that can't be: which (bits)", while the COST is of those that can. */
    static void terms3CheapestOfThoseThatCanBe() {
        SeenByOne x = Due.told("thing 1 0 0 3 2;thing 1 1 0 3 3;thing 1 0 1 3 4;thing 1 9 9 3 5;thing 3 9 8 3 6;far 2");
        Due.cheapest(x, 1 + 2 + 1 + 3 + 1 + 4, 8, 3);
        Due.is("shuts()", x.shuts(), -6);
        x.draw(0, true);
        x.draw(1, true);
        Due.cheapest(x, 0, 4 + 8, 0);
    }

    /** "(each keeps its dearest SEER, of several the first; a SHY one none)" */
    static void terms3KeepsTheDearestOrTheFirst() {
        int[] kept = {3, 3, 0, 0, 3, 3, 0, 0};
        SeenByOne x = Due.told(Due.EIGHT);
        for (int house = 0; house < 8; house++) {
            Due.is("keeps(" + house + ")", x.keeps(house), kept[house]);
        }
        x.shut(3, 0, true);
        Due.is("of the dearest just the second is left", x.keeps(0), 7);
        x.shut(7, 0, true);
        Due.is("of three less dear ones the first", x.keeps(0), 2);
        for (int i = 1; i < 7; i++) {
            x.shut(i, 0, true);
        }
        Due.is("none is left", x.keeps(0), -1);
        x.shut(5, 0, false);
        Due.is("one is left", x.keeps(0), 5);
        SeenByOne shy = eightShy();
        for (int house = 0; house < 8; house++) {
            Due.is("a SHY one's", shy.keeps(house), -1);
        }
        SeenByOne towers = Due.told("thing 1 0 0 3 0;thing 3 9 9 3 0;thing 1 1 1 3 0;far 9");
        Due.is("the dearest that is a SEER", towers.keeps(0), 2);
    }

    /** Just SHY ones keep none: not those of the KINDS beside SHY. */
    static void terms3KeepsByKind() {
        int[] kinds = {1, 3, 4, 5};
        int[] kept = {2, 2, -1, 2};
        int[] costs = {3 + 1 + 2, 3, 3 + 4 + 1 + 2, 3};
        int[] shutters = {3, 1, 4, 1};
        for (int n = 0; n < 4; n++) {
            SeenByOne x = Due.told("thing " + kinds[n] + " 0 0 3 2;thing 1 1 0 3 0;thing 1 2 2 3 0");
            Due.is("keeps(0) of KIND " + kinds[n], x.keeps(0), kept[n]);
            Due.cheapest(x, costs[n], 0, shutters[n]);
            Due.is("shuts() with KIND " + kinds[n], x.shuts(), costs[n]);
            Due.is("right() with KIND " + kinds[n], x.right(), 7);
        }
    }

    /** Promise 35: "SHUTTERS of CHEAPEST are let down in truth": none to let down, and as many as there may be. */
    static void promise35ShutsNoneAndMost() {
        SeenByOne two = Due.told(TWO);
        Due.is("none", two.shuts(), 0);
        Due.is("SHUTTERS", two.status(4), 0);
        SeenByOne eight = Due.told(Due.EIGHT);
        Due.is("48", eight.shuts(), 116);
        Due.is("SHUTTERS", eight.status(4), 48);
        Due.is("right()", eight.right(), 255);
        Due.is("the kept one SEES INTO it", eight.seers(7), 1);
        SeenByOne shy = eightShy();
        Due.is("56", shy.shuts(), 144);
        Due.is("SHUTTERS", shy.status(4), 56);
        Due.is("right()", shy.right(), 255);
        Due.is("a single HOUSE can't be", Due.told(ONE).shuts(), -6);
        Due.is("a single SHY one is", Due.told(ONE_SHY).shuts(), 0);
    }

    /** "CURTAINS: of all sets of HOUSES": none of no HOUSES, none, all of 8. */
    static void terms3CurtainsOfNoneToEight() {
        Due.curtains(new SeenByOne(), 0, 0, 0, 0);
        Due.curtains(Due.told("thing 2 0 0 3 0;thing 0 1 0 3 0"), 0, 0, 0, 0);
        Due.curtains(Due.told(ONE), 0, 0, 0, 0);
        Due.curtains(Due.told(ONE_SHY), 0, 1, 0, 2);
        Due.curtains(eightShy(), 255, 8, 255, 16);
    }

    /** "that with most RIGHT, of several that of the fewest": none if one more makes none more; 4 before 3. */
    static void terms3CurtainsOfTheFewest() {
        Due.curtains(Due.told(TWO), 0, 2, 0, 4);
        Due.curtains(Due.told(TWO + ";draw 0;draw 1"), 0, 2, 0, 4);
        Due.curtains(Due.told("thing 4 0 0 3 0;thing 1 1 0 3 0;thing 5 0 1 3 0;shut 0 1;shut 0 2"), 0, 1, 0, 2);
        Due.curtains(Due.told("thing 4 0 0 3 0;thing 1 1 0 3 0;thing 4 0 1 3 0;shut 1 0"), 4, 2, 4, 4);
    }

    /** "of several the least as bits": 1 of 1 and 2, 2 of 2 and 4, 127 of eight. */
    static void terms3CurtainsOfTheLeastBits() {
        Due.curtains(Due.told("thing 4 0 0 3 0;thing 4 1 0 3 0;thing 5 0 1 3 0"), 1, 2, 1, 4);
        Due.curtains(Due.told("thing 5 0 1 3 0;thing 1 0 0 3 0;thing 1 1 0 3 0;shut 1 2;shut 2 1"), 2, 1, 2, 2);
        Due.curtains(Due.told(Due.EIGHT), 127, 7, 127, 14);
    }

    private static void newly(String text, int h, int place) {
        Due.is("newly(" + h + ") with " + text, Due.told(text).newly(h), place);
    }

    /** "NEWLY: of all free PLACES (by Y, then X)": with none there, with seven there, none so good, the last one. */
    static void terms3NewlyOfFreePlaces() {
        Due.is("nothing there", new SeenByOne().newly(0), 0);
        Due.is("nothing there", new SeenByOne().newly(20), 0);
        String row = "thing 0 0 0 1 1;thing 0 1 0 1 1;thing 0 2 0 1 1;thing 0 3 0 1 1;thing 0 4 0 1 1;thing 0 5 0 1 1";
        newly(row, 3, 6);
        newly(row + ";thing 0 6 0 1 1", 3, 7);
        newly(row.substring(16), 3, 0);
        newly("thing 0 0 0 1 1;thing 0 0 1 1 1", 3, 1);
        newly("thing 1 9 8 3 0;thing 0 8 7 1 1;thing 0 9 7 1 1;thing 0 8 8 1 1;thing 0 8 9 1 1;far 1", 3, 99);
        newly("thing 1 9 8 3 0;thing 0 8 7 1 1;thing 0 9 7 1 1;thing 0 8 8 1 1;thing 0 9 9 1 1;far 1", 3, 98);
    }

    /** "STOREY .. if its HEIGHT were 1 more": below 0, 0, above; from HEIGHT 0 and up to HEIGHT 20. */
    static void terms3StoreyBelowAndAbove() {
        String between = "thing 1 0 0 3 0;thing 1 2 0 3 0;thing ";
        Due.is("below 0", Due.told(between + "5 1 0 3 0").storey(2), -2);
        Due.is("0", Due.told(between + "5 1 0 2 0").storey(2), 0);
        Due.is("above", Due.told(between + "1 1 0 3 0").storey(2), 2);
        Due.is("from 0", Due.told("thing 1 0 0 0 0;thing 1 2 0 0 0;thing 5 1 0 0 0").storey(2), -2);
        Due.is("up to 20", Due.told("thing 1 0 0 19 0;thing 1 2 0 19 0;thing 5 1 0 19 0").storey(2), -2);
        Due.is("from 20", Due.told("thing 1 0 0 20 0;thing 1 2 0 20 0;thing 5 1 0 20 0").storey(2), -1006);
    }

    /** "BLINDED by a STOREY: sights (SEES INTO) that aren't any more": none, and four. */
    static void terms3BlindedNoneAndSome() {
        String cross = "thing 1 0 1 3 0;thing 3 2 1 3 0;thing 1 1 0 3 0;thing 4 1 2 3 0;thing 5 1 1 3 0";
        Due.is("four", Due.told(cross).blinded(4), 4);
        Due.is("none yet", Due.told(cross.replace("thing 5 1 1 3 0", "thing 5 1 1 2 0")).blinded(4), 0);
        Due.is("none any more", Due.told(cross.replace("thing 5 1 1 3 0", "thing 5 1 1 4 0")).blinded(4), 0);
        Due.is("none of its own", Due.told(cross).blinded(0), 0);
        Due.is("up to 20", Due.told(cross.replace(" 3 0", " 19 0")).blinded(4), 4);
        Due.is("of a single HOUSE", Due.told(ONE).blinded(0), 0);
    }

    /** "FELLED: how many more are RIGHT without a THING that is no HOUSE": below 0, 0, above; the first, the last. */
    static void terms3FelledBelowAndAbove() {
        String houses = "thing 1 0 0 3 0;thing 1 2 0 3 0";
        Due.is("above, the last", Due.told(houses + ";thing 0 1 0 4 0").felled(2), 2);
        Due.is("above, the first", Due.told("thing 0 1 0 4 0;" + houses).felled(0), 2);
        Due.is("0", Due.told(houses + ";thing 0 1 0 3 0").felled(2), 0);
        Due.is("below 0", Due.told("thing 4 0 0 3 0;thing 4 2 0 3 0;thing 6 1 0 3 1").felled(2), -2);
        Due.is("alone", Due.told("thing 0 1 0 3 0").felled(0), 0);
        Due.is("of eight", Due.told(houses + ";thing 0 9 9 0 0;thing 0 8 9 0 0;thing 0 9 8 0 0;thing 0 8 8 0 0;thing 0 7 7 0 0;"
            + "thing 0 1 0 20 0").felled(7), 2);
    }

    /** "PAIRS: of HOUSES that SEE INTO each other": none, one, as many as there may be. */
    static void terms3PairsNoneToAll() {
        Due.is("of none", new SeenByOne().pairs(), 0);
        Due.is("of one HOUSE", Due.told(ONE).pairs(), 0);
        Due.is("of two", Due.told(TWO).pairs(), 1);
        Due.is("one way alone", Due.told(TWO + ";shut 1 0").pairs(), 0);
        Due.is("with a TOWER, the first", Due.told("thing 3 0 0 3 0;thing 1 1 0 3 0").pairs(), 1);
        Due.is("with a TOWER, the last", Due.told("thing 1 0 0 3 0;thing 3 1 0 3 0").pairs(), 1);
        Due.is("of two TOWERS", Due.told("thing 3 0 0 3 0;thing 3 1 0 3 0").pairs(), 1);
        Due.is("with a BLIND one, the last", Due.told("thing 1 0 0 3 0;thing 5 1 0 3 0").pairs(), 0);
        Due.is("of eight", Due.told(Due.EIGHT).pairs(), 28);
        Due.is("of eight, one DRAWN", Due.told(Due.EIGHT + ";draw 7").pairs(), 21);
    }

    /** "BACK .. behind how many steps it is there again": each number of steps from 2 to 8, and off the ring. */
    static void terms3BackBehindTwoToEight() {
        for (int ring = 2; ring <= 8; ring++) {
            SeenByOne x = Due.told(Due.EIGHT);
            for (int i = 0; i < 8; i++) {
                for (int j = 0; j < 8; j++) {
                    boolean kept = i < ring && (j < ring ? j == (i + 1) % ring : i == 0);
                    if (i != j && !kept) {
                        x.shut(i, j, true);
                    }
                }
            }
            for (int house = 0; house < 8; house++) {
                Due.is("back(" + house + ") by a ring of " + ring, x.back(house), house < ring ? ring : -1);
            }
        }
    }

    /** "NONE: never (8 at most, or there is no SEER)" */
    static void terms3BackNever() {
        Due.is("a single HOUSE", Due.told(ONE).back(0), -1);
        SeenByOne x = Due.told(TWO + ";shut 1 0");
        Due.is("no SEER", x.back(0), -1);
        Due.is("a SEER without one", x.back(1), -1);
        SeenByOne y = Due.told(TWO);
        Due.is("there and back", y.back(0), 2);
        y.draw(0, true);
        Due.is("no SEER behind one step", y.back(0), -1);
    }

    /** Promise 32: "The HOUSE that SEES INTO most, of several the first. -5 no HOUSES." */
    static void promise32MostOfNoneToEight() {
        Due.is("no THINGS", new SeenByOne().most(), -5);
        Due.is("one HOUSE that sees none", Due.told(ONE).most(), 0);
        Due.is("a BLIND one alone", Due.told("thing 0 0 0 1 1;thing 5 1 1 1 1").most(), 1);
        SeenByOne x = Due.told(Due.EIGHT);
        for (int first = 0; first < 8; first++) {
            Due.is("of several the first", x.most(), first);
            x.draw(first, true);
        }
        Due.is("of eight that see none the first", x.most(), 0);
        for (int house = 0; house < 8; house++) {
            x.draw(house, false);
            Due.is("it alone", x.most(), house);
            x.draw(house, true);
        }
    }

    /** "which THINGS SEE INTO it (bits, by the numbers of THINGS there alone)": the last bit that counts, the first that doesn't. */
    static void terms3ListBitsOfThingsThere() {
        SeenByOne x = new SeenByOne();
        for (int things = 1; things <= 8; things++) {
            x.thing(1, things % 4, things / 4, 3, 0);
            int last = things - 1;
            x.row(0, 2, things);
            for (int j = 0; j < things; j++) {
                x.set(0, j, -1 & ~(1 << j));
            }
            Due.list(x, -1, 0, 3);
            x.set(0, last, -1);
            Due.list(x, last, 1, 0);
            x.set(0, last, ~(1 << last) & ~(1 << things));
            Due.list(x, -1, 0, 3);
        }
    }

    /** "an element for each THING": none for none, one too few, just as many, more. */
    static void terms3ListAnElementForEach() {
        SeenByOne none = new SeenByOne();
        none.row(0, 3, 0);
        Due.list(none, -1, 0, 3);
        none.row(0, 3, 160);
        none.set(0, 0, -1);
        Due.list(none, -1, 0, 3);
        SeenByOne eight = Due.told(Due.EIGHT);
        int[] enough = {8, 9, 160};
        for (int n : enough) {
            eight.row(0, 0, n);
            for (int j = 0; j < n; j++) {
                eight.set(0, j, j < 8 ? 255 & ~(1 << j) : 255);
            }
            Due.list(eight, -1, 0, 3);
        }
        eight.row(0, 0, 7);
        Due.is("one too few", eight.list(0, 0), -15);
    }

    /** "WRONG: the first that isn't so; UNLIKE: how many sights are told otherwise": the last, and all of them. */
    static void terms3ListWrongAndUnlike() {
        SeenByOne x = Due.told(Due.EIGHT);
        x.row(0, 1, 8);
        for (int j = 0; j < 8; j++) {
            x.set(0, j, 1 << j);
        }
        Due.list(x, 0, 64, 0);
        for (int j = 0; j < 7; j++) {
            x.set(0, j, ~(1 << j));
            Due.list(x, j + 1, 64 - 8 * (j + 1), 0);
        }
        x.set(0, 7, ~(1 << 7));
        Due.list(x, -1, 0, 3);
    }

    /** "FITS: 1 SUMMER alone is as told, 2 winter alone, 3 both, 0 neither" */
    static void terms3ListFitsZeroToThree() {
        long[][] told = {{1, 0, 0}, {0, 0, 0}, {2, 1, 0}};
        for (int summer = 0; summer < 2; summer++) {
            SeenByOne x = Due.told("thing 1 0 0 3 0;thing 1 2 0 3 0;thing 2 1 0 3 1;summer " + summer);
            for (int fits = 0; fits < 3; fits++) {
                Due.put(x, 0, 0, told[fits]);
                Due.is("list(0, 2) in SUMMER " + summer, x.list(0, 2), fits);
            }
            x.height(2, 2);
            Due.put(x, 0, 0, told[2]);
            Due.is("both in SUMMER " + summer, x.list(0, 2), 3);
        }
    }

    /** "NIGHT: told which HOUSES are RIGHT": none of none, all of eight, one bit too many. */
    static void terms3NightNoneToEight() {
        SeenByOne none = new SeenByOne();
        Due.is("night(0) of none", none.night(0), 0);
        Due.is("night(1) of none", none.night(1), -6);
        SeenByOne x = eightShy();
        for (int house = 0; house < 7; house++) {
            x.draw(house, true);
        }
        Due.is("right()", x.right(), 128);
        Due.is("all are: 7 has drawn its", x.night(255), 128);
        Due.is("none is: any of the others has drawn it back", x.night(0), 127);
        Due.is("just 7 is: nobody, one has moved", x.night(128), 0);
        Due.is("a bit too many", x.night(256), -6);
        Due.is("a bit too many", x.night(511), -6);
        x.draw(7, true);
        for (int house = 0; house < 8; house++) {
            Due.is("just " + house + " is: it has drawn it back", x.night(1 << house), 1 << house);
        }
        Due.is("nothing is changed", x.status(5), 8);
    }

    /** "(each one alone: drawn, or back)": one whose curtain doesn't matter can have moved it, too. */
    static void terms3NightOfOneThatSeesNone() {
        SeenByOne x = Due.told(ONE_SHY);
        Due.is("night(1): it has", x.night(1), 1);
        Due.is("night(0): nobody", x.night(0), 0);
        SeenByOne y = Due.told("thing 5 0 0 3 0;thing 4 9 9 3 0;thing 3 9 8 3 0;far 2");
        Due.is("right()", y.right(), 6);
        Due.is("night(6): the BLIND one, or the TOWER, which doesn't count", y.night(6), 1 + 4);
        Due.is("night(2): the SHY one, which sees the TOWER", y.night(2), 2);
    }
}
