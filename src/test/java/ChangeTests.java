/** Promises 26 to 29: what would come of a new HOUSE, a STOREY, a THING FELLED. */
final class ChangeTests {
    private ChangeTests() {
    }

    private static void newly(String text, int h, int place) {
        SeenByOne x = Due.told(text);
        int things = x.status(0);
        int right = x.right();
        Due.is("newly(" + h + ") with " + text, x.newly(h), place);
        Due.is("nothing is changed", x.status(0), things);
        Due.is("nothing is changed", x.right(), right);
        Due.refused(x, 0, 0, 0, 0, 0, 0, 0);
    }

    static void promise26Newly() {
        newly("far 9", 3, 0);
        newly("thing 0 0 0 3 0;thing 0 1 0 3 0", 20, 2);
        newly("thing 1 0 0 3 0", 3, 1);
        newly("thing 1 5 5 3 0;far 1", 3, 44);
        newly("thing 1 9 9 1 0;far 2", 0, 77);
        newly("thing 1 9 9 1 0;thing 0 8 8 3 0;far 2", 5, 77);
        newly("thing 1 9 9 1 0;thing 0 8 8 3 0;far 2", 4, 78);
        newly("thing 1 0 0 3 0;thing 1 1 0 3 0;far 1", 3, 2);
    }

    static void promise26NewlyCountsItself() {
        newly("thing 3 5 0 3 0;thing 1 9 9 3 0;far 1", 3, 88);
        newly("thing 5 9 9 3 0;far 1", 3, 88);
        newly("thing 4 1 1 3 0;far 1", 3, 0);
        newly("thing 4 0 0 3 0;thing 5 1 0 3 0;far 1", 3, 3);
    }

    /** All three see each other; a higher one beside 0 alone takes two SEERS from it. */
    static void promise26NewlyStandsInTheWay() {
        String three = "thing 1 0 5 3 0;thing 1 4 5 3 0;thing 1 8 5 3 0";
        newly(three, 3, 0);
        newly(three, 4, 51);
    }

    static void promise26NewlyAtTheEdges() {
        newly("thing 1 9 8 3 0;thing 0 8 7 0 0;thing 0 9 7 0 0;thing 0 8 8 0 0;thing 0 8 9 0 0;far 1", 3, 99);
        newly("thing 1 9 5 3 0;thing 0 8 4 0 0;thing 0 9 4 0 0;thing 0 8 5 0 0;thing 0 8 6 0 0;thing 0 9 6 0 0;far 1", 3, 0);
        newly("thing 1 5 9 3 0;thing 0 4 8 0 0;thing 0 5 8 0 0;thing 0 6 8 0 0;thing 0 4 9 0 0;thing 0 6 9 0 0;far 1", 3, 0);
    }

    static void promise26NewlyRefusals() {
        SeenByOne x = Due.told("thing 0 0 0 0 0;thing 0 1 0 0 0;thing 0 2 0 0 0;thing 0 3 0 0 0;thing 0 4 0 0 0;"
            + "thing 0 5 0 0 0;thing 0 6 0 0 0");
        Due.is("newly(-1)", x.newly(-1), -6);
        Due.is("newly(21)", x.newly(21), -6);
        Due.is("newly(0)", x.newly(0), 7);
        x.thing(0, 9, 9, 0, 0);
        Due.is("newly(21) without room", x.newly(21), -6);
        Due.is("newly(20) without room", x.newly(20), -7);
        Due.refused(x, 0, 0, 0, 0, 0, 3, 1);
    }

    private static void storey(String text, int house, int more, int blinded) {
        SeenByOne x = Due.told(text);
        int right = x.right();
        int height = x.thingOf(house, 3);
        Due.is("storey(" + house + ") with " + text, x.storey(house), more);
        Due.is("blinded(" + house + ") with " + text, x.blinded(house), blinded);
        Due.is("nothing is changed", x.thingOf(house, 3), height);
        Due.is("nothing is changed", x.right(), right);
        Due.refused(x, 0, 0, 0, 0, 0, 0, 0);
    }

    static void promise27Storey() {
        String walled = "thing 1 0 0 4 0;thing 1 2 0 3 0;thing 0 1 0 4 0";
        storey(walled, 0, 2, 0);
        storey(walled, 1, 2, 0);
        storey("thing 1 0 0 3 0;thing 1 2 0 3 0;thing 1 1 0 3 0", 2, 2, 2);
        storey("thing 1 0 0 3 0;thing 1 2 0 3 0;thing 1 1 0 2 0", 2, 0, 0);
        storey("thing 1 0 0 3 0;thing 1 2 0 3 0;thing 5 1 0 3 0", 2, -2, 2);
        storey("thing 1 0 0 3 0;thing 1 2 0 3 0;thing 5 1 0 3 0", 0, 0, 0);
        storey("thing 1 0 0 3 0;thing 1 2 0 3 0;thing 5 1 0 19 0;far 1", 2, 0, 0);
    }

    static void promise27StoreyRefusals() {
        SeenByOne x = Due.told("thing 1 0 0 20 4;thing 0 2 0 20 0");
        Due.is("storey(2)", x.storey(2), -1001);
        Due.is("storey(-1)", x.storey(-1), -1001);
        Due.is("storey(1)", x.storey(1), -1002);
        Due.is("storey(0)", x.storey(0), -1006);
        x.height(0, 19);
        Due.is("storey(0) from 19", x.storey(0), 0);
        Due.refused(x, 2, 1, 0, 0, 0, 1, 0);
    }

    static void promise28Blinded() {
        String across = "thing 3 0 1 3 0;thing 1 2 1 3 0;thing 1 1 0 3 0;thing 4 1 2 3 0;thing 1 1 1 3 0";
        storey(across, 4, 0, 4);
        storey(across + ";shut 0 1;draw 3", 4, 0, 2);
        SeenByOne x = Due.told("thing 1 0 0 3 0;thing 1 2 0 3 0;thing 5 1 0 3 0;shut 0 1");
        Due.is("a sight that is SHUT can't be lost", x.blinded(2), 1);
        x.draw(1, true);
        Due.is("nor one behind a curtain", x.blinded(2), 0);
    }

    /** The last but one stands between the last and 0. */
    static void promise28BlindedAmongEight() {
        storey("thing 1 0 0 3 0;thing 0 5 5 0 0;thing 0 6 5 0 0;thing 0 7 5 0 0;thing 0 5 6 0 0;thing 0 6 6 0 0;"
            + "thing 1 1 0 3 0;thing 1 2 0 3 0", 6, 2, 2);
    }

    static void promise28BlindedRefusals() {
        SeenByOne x = Due.told("thing 1 0 0 20 4;thing 0 2 0 20 0");
        Due.is("blinded(2)", x.blinded(2), -1);
        Due.is("blinded(-1)", x.blinded(-1), -1);
        Due.is("blinded(1)", x.blinded(1), -2);
        Due.is("blinded(0)", x.blinded(0), -6);
        x.height(0, 19);
        Due.is("blinded(0) from 19", x.blinded(0), 0);
        Due.refused(x, 2, 1, 0, 0, 0, 1, 0);
    }

    private static void felled(String text, int thing, int more) {
        SeenByOne x = Due.told(text);
        int right = x.right();
        Due.is("felled(" + thing + ") with " + text, x.felled(thing), more);
        Due.is("nothing is changed", x.right(), right);
        Due.is("nothing is changed", x.thingOf(thing, 1) >= 0 ? 1 : 0, 1);
        Due.refused(x, 0, 0, 0, 0, 0, 0, 0);
    }

    static void promise29Felled() {
        felled("thing 1 0 0 3 0;thing 1 2 0 3 0;thing 0 1 0 9 0", 2, 2);
        felled("thing 0 1 0 9 0;thing 1 0 0 3 0;thing 1 2 0 3 0", 0, 2);
        felled("thing 2 1 0 2 2;thing 1 0 0 3 0;thing 1 2 0 3 0", 0, 2);
        felled("thing 2 1 0 2 2;thing 1 0 0 3 0;thing 1 2 0 3 0;summer 0", 0, 0);
        felled("thing 6 1 0 2 2;thing 1 0 0 3 0;thing 1 2 0 3 0;summer 0", 0, 2);
        felled("thing 1 0 0 3 0;thing 1 0 1 3 0;thing 1 2 0 3 0;thing 0 1 0 9 0", 3, -2);
        felled("thing 0 9 9 3 0", 0, 0);
        felled("thing 0 1 0 9 0;thing 0 2 0 9 0;thing 1 0 0 3 0;thing 1 3 0 3 0", 1, 0);
        felled("thing 0 1 0 9 0;thing 1 0 0 3 0;thing 1 2 0 3 0;shut 1 2", 0, 1);
    }

    static void promise29FelledRefusals() {
        SeenByOne x = Due.told("thing 1 0 0 3 0;thing 5 1 0 3 0;thing 0 5 5 5 5");
        Due.is("felled(3)", x.felled(3), -1001);
        Due.is("felled(-1)", x.felled(-1), -1001);
        Due.is("felled(0)", x.felled(0), -1002);
        Due.is("felled(1)", x.felled(1), -1002);
        Due.is("felled(2)", x.felled(2), 0);
        Due.refused(x, 2, 2, 0, 0, 0, 0, 0);
    }
}
