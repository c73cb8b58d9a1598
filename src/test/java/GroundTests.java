/** Promises 9 to 16: THINGS, what is asked, shutters and curtains one by one, GROUNDS from texts. */
final class GroundTests {
    private GroundTests() {
    }

    static void promise09Thing() {
        SeenByOne x = new SeenByOne();
        for (int kind = 0; kind < 7; kind++) {
            Due.is("thing of KIND " + kind, x.thing(kind, kind, 9 - kind, 20 - kind, kind), kind);
        }
        Due.is("thing at the far corner", x.thing(0, 9, 9, 20, 9), 7);
        Due.is("how many", x.status(0), 8);
        for (int kind = 0; kind < 7; kind++) {
            Due.is("KIND", x.thingOf(kind, 0), kind);
        }
    }

    static void promise09ThingRefusals() {
        SeenByOne x = new SeenByOne();
        Due.is("the first", x.thing(1, 0, 0, 0, 0), 0);
        Due.is("KIND -1", x.thing(-1, 10, 0, 0, 0), -1);
        Due.is("KIND 7", x.thing(7, 0, 0, 0, 0), -1);
        Due.is("X -1", x.thing(0, -1, 5, 0, 0), -6);
        Due.is("X 10", x.thing(0, 10, 5, 0, 0), -6);
        Due.is("Y -1", x.thing(0, 5, -1, 0, 0), -6);
        Due.is("Y 10", x.thing(0, 5, 10, 0, 0), -6);
        Due.is("HEIGHT -1", x.thing(0, 5, 5, -1, 0), -6);
        Due.is("HEIGHT 21", x.thing(0, 5, 5, 21, 0), -6);
        Due.is("a -1", x.thing(0, 5, 5, 0, -1), -6);
        Due.is("a 10", x.thing(0, 5, 5, 0, 10), -6);
        Due.is("a PLACE that is taken", x.thing(0, 0, 0, 1, 1), -6);
        Due.is("how many", x.status(0), 1);
        for (int n = 1; n < 8; n++) {
            Due.is("thing", x.thing(0, n, 0, 0, 0), n);
        }
        Due.is("no room, no KIND", x.thing(7, 5, 5, 0, 0), -1);
        Due.is("no room, a PLACE that is taken", x.thing(0, 5, 0, 0, 0), -6);
        Due.is("no room, a wrong a", x.thing(0, 5, 5, 0, 10), -6);
        Due.is("no room", x.thing(0, 5, 5, 0, 0), -7);
        Due.refused(x, 3, 0, 0, 0, 0, 11, 1);
    }

    static void promise10ThingOf() {
        SeenByOne x = Due.told("thing 0 1 2 3 4;thing 2 5 6 7 8;thing 6 9 8 7 6;thing 3 4 3 2 9;draw 3");
        int[][] want = {{0, 1, 2, 3, 4, 3, 0}, {2, 5, 6, 7, 8, 15, 0}, {6, 9, 8, 7, 6, 13, 0}, {3, 4, 3, 2, 9, 2, 1}};
        for (int thing = 0; thing < want.length; thing++) {
            for (int what = 0; what < 7; what++) {
                Due.is("thingOf(" + thing + ", " + what + ")", x.thingOf(thing, what), want[thing][what]);
            }
        }
        x.ask(0, 0);
        Due.is("TALL of a TREE in winter", x.thingOf(1, 5), 0);
        Due.is("TALL of a FIR in winter", x.thingOf(2, 5), 13);
        Due.is("TALL of a wall in winter", x.thingOf(0, 5), 3);
        Due.is("thingOf(4, 0)", x.thingOf(4, 0), -5);
        Due.is("thingOf(-1, 0)", x.thingOf(-1, 0), -5);
        Due.is("thingOf(0, 7)", x.thingOf(0, 7), -5);
        Due.is("thingOf(0, -1)", x.thingOf(0, -1), -5);
        Due.refused(x, 0, 0, 0, 0, 4, 0, 0);
    }

    static void promise11Height() {
        SeenByOne x = Due.told("thing 0 1 2 3 4;thing 1 5 6 7 8");
        Due.is("height(0, 20)", x.height(0, 20), 3);
        Due.is("height(0, 0)", x.height(0, 0), 20);
        Due.is("height(1, 9)", x.height(1, 9), 7);
        Due.is("HEIGHT", x.thingOf(1, 3), 9);
        Due.is("no such THING, nor HEIGHT", x.height(2, 21), -1);
        Due.is("no such THING", x.height(-1, 2), -1);
        Due.is("height(1, 21)", x.height(1, 21), -6);
        Due.is("height(1, -1)", x.height(1, -1), -6);
        Due.is("HEIGHT is as it was", x.thingOf(1, 3), 9);
        Due.refused(x, 2, 0, 0, 0, 0, 2, 0);
    }

    static void promise12Ask() {
        SeenByOne x = new SeenByOne();
        Due.is("ask(0, 0)", x.ask(0, 0), 1);
        Due.is("ask(0, 1)", x.ask(0, 1), 0);
        Due.is("ask(0, 1) again", x.ask(0, 1), 1);
        Due.is("ask(1, 1)", x.ask(1, 1), 9);
        Due.is("ask(1, 9)", x.ask(1, 9), 1);
        Due.is("ask(1, 4)", x.ask(1, 4), 9);
        Due.is("ask(0, 2)", x.ask(0, 2), -6);
        Due.is("ask(0, -1)", x.ask(0, -1), -6);
        Due.is("ask(1, 0)", x.ask(1, 0), -6);
        Due.is("ask(1, 10)", x.ask(1, 10), -6);
        Due.is("ask(2, 1)", x.ask(2, 1), -6);
        Due.is("ask(-1, 1)", x.ask(-1, 1), -6);
        Due.is("SUMMER", x.status(2), 1);
        Due.is("FAR", x.status(3), 4);
        Due.refused(x, 0, 0, 0, 0, 0, 6, 0);
    }

    static void promise13Shut() {
        SeenByOne x = Due.told("thing 1 0 0 3 0;thing 3 1 0 3 0;thing 0 5 5 3 0");
        Due.is("shut(0, 1, false)", x.shut(0, 1, false), 0);
        Due.is("shut(0, 1, true)", x.shut(0, 1, true), 1);
        Due.is("shut(0, 1, true) again", x.shut(0, 1, true), 0);
        Due.is("the sight is SHUT", x.sees(0, 1, 1), 0);
        Due.is("it LOOKS INTO it still", x.sees(0, 1, 0), 1);
        Due.is("the sight back isn't", x.sees(1, 0, 1), 1);
        Due.is("shut(1, 0, true)", x.shut(1, 0, true), 1);
        Due.is("SHUTTERS", x.status(4), 2);
        Due.is("shut(0, 1, false)", x.shut(0, 1, false), 1);
        Due.is("the sight is free", x.sees(0, 1, 1), 1);
        Due.is("no such THING, no HOUSE", x.shut(2, 3, true), -1);
        Due.is("no such THING", x.shut(-1, -1, true), -1);
        Due.is("no HOUSE, the same", x.shut(2, 2, true), -2);
        Due.is("no HOUSE", x.shut(0, 2, true), -2);
        Due.is("no HOUSE first", x.shut(2, 0, true), -2);
        Due.is("the same", x.shut(0, 0, false), -6);
        Due.is("SHUTTERS", x.status(4), 1);
        Due.refused(x, 2, 3, 0, 0, 0, 1, 0);
    }

    static void promise14Draw() {
        SeenByOne x = Due.told("thing 1 0 0 3 0;thing 5 1 0 3 0;thing 0 5 5 3 0");
        Due.is("draw(0, false)", x.draw(0, false), 0);
        Due.is("draw(0, true)", x.draw(0, true), 1);
        Due.is("draw(0, true) again", x.draw(0, true), 0);
        Due.is("it sees nothing", x.sees(0, 1, 1), 0);
        Due.is("a BLIND one", x.draw(1, true), 1);
        Due.is("curtains", x.status(5), 2);
        Due.is("draw(0, false)", x.draw(0, false), 1);
        Due.is("it sees again", x.sees(0, 1, 1), 1);
        Due.is("no such THING", x.draw(3, true), -1);
        Due.is("no such THING", x.draw(-1, false), -1);
        Due.is("no HOUSE", x.draw(2, true), -2);
        Due.is("curtains", x.status(5), 1);
        Due.refused(x, 2, 1, 0, 0, 0, 0, 0);
    }

    static void promise15Ground() {
        SeenByOne x = new SeenByOne();
        Due.put(x, 0, 0, "thing 1 0 0 20 9;thing 03 09 08 07 06;shut 1 0;draw 1;draw 1;summer 0;far 3");
        Due.is("ITEMS", x.ground(0), 7);
        Due.is("THINGS", x.status(0), 2);
        int[] want = {3, 9, 8, 7, 6, 7, 1};
        for (int what = 0; what < want.length; what++) {
            Due.is("thingOf(1, " + what + ")", x.thingOf(1, what), want[what]);
        }
        Due.is("SUMMER", x.status(2), 0);
        Due.is("FAR", x.status(3), 3);
        Due.is("SHUTTERS", x.status(4), 1);
        Due.is("it is 1's sight into 0", x.shut(1, 0, true), 0);
        Due.is("curtains", x.status(5), 1);
        Due.put(x, 0, 0, "shut 1 0;shut 0 1");
        Due.is("ITEMS, one of a sight SHUT already", x.ground(0), 2);
        Due.is("SHUTTERS", x.status(4), 2);
        x.shut(0, 1, false);
        Due.put(x, 0, 0, "summer 1");
        Due.is("a single ITEM", x.ground(0), 1);
        Due.is("SUMMER", x.status(2), 1);
        Due.is("THINGS are still there", x.status(0), 2);
        Due.put(x, 0, 0, "far 1;draw 0;thing 0 1 1 1 1;shut 0 1");
        Due.is("ITEMS over what there is", x.ground(0), 4);
        Due.is("THINGS", x.status(0), 3);
        Due.is("curtains", x.status(5), 2);
        Due.is("SHUTTERS", x.status(4), 2);
    }

    static void promise15GroundOfEachSort() {
        String text = "thing 1 0 0 2 1;draw 0;far 4";
        for (int sort = 0; sort < 4; sort++) {
            SeenByOne x = new SeenByOne();
            Due.put(x, 0, sort, text);
            Due.is("ITEMS", x.ground(0), 3);
            Due.is("FAR", x.status(3), 4);
        }
        SeenByOne x = new SeenByOne();
        Due.put(x, 0, 3, text);
        x.set(0, 0, 't' + (7L << 32));
        Due.is("of longs the lowest 32 bits", x.ground(0), 3);
        Due.put(x, 0, 2, "far 4");
        x.set(0, 0, 'f' + 256);
        Due.is("of ints all", x.ground(0), -6);
        Due.is("fault()", x.fault(), 0);
        Due.put(x, 0, 0, "far 4");
        x.set(0, 4, -1);
        Due.is("an element below 0", x.ground(0), -6);
        Due.is("fault()", x.fault(), 4);
    }

    static void promise15GroundAllOrNothing() {
        SeenByOne x = Due.told("thing 1 0 0 3 0;thing 1 1 0 3 0");
        Due.put(x, 0, 0, "thing 1 5 5 1 1;far 3;summer 0;shut 0 1;draw 0;far 0");
        Due.is("ground", x.ground(0), -6);
        Due.is("THINGS", x.status(0), 2);
        Due.is("SUMMER", x.status(2), 1);
        Due.is("FAR", x.status(3), 9);
        Due.is("SHUTTERS", x.status(4), 0);
        Due.is("curtains", x.status(5), 0);
        Due.is("the PLACE is free", x.thing(1, 5, 5, 1, 1), 2);
        Due.refused(x, 0, 0, 0, 0, 0, 1, 0);
    }

    static void promise15GroundRefusals() {
        SeenByOne x = Due.told("thing 1 0 0 3 0");
        x.show(1, 0);
        Due.is("ground(8)", x.ground(8), -1);
        Due.is("ground(-1)", x.ground(-1), -1);
        Due.is("ground of a THING", x.ground(1), -2);
        Due.is("ground of NOTHING", x.ground(2), -3);
        Due.refused(x, 2, 1, 1, 0, 0, 0, 0);
    }

    static void promise16FaultInWords() {
        Due.faulty("", "", 0);
        Due.faulty("", " far 1", 0);
        Due.faulty("", "x", 0);
        Due.faulty("", "Thing 1 0 0 0 0", 0);
        Due.faulty("", ";", 0);
        Due.faulty("", "t", 1);
        Due.faulty("", "s", 1);
        Due.faulty("", "sa", 1);
        Due.faulty("", "sx", 1);
        Due.faulty("", "shu", 3);
        Due.faulty("", "shun 0 1", 3);
        Due.faulty("", "suh", 2);
        Due.faulty("", "summe", 5);
        Due.faulty("", "summer", 6);
        Due.faulty("", "summers 1", 6);
        Due.faulty("", "fax", 2);
        Due.faulty("", "far", 3);
        Due.faulty("", "far1", 3);
        Due.faulty("", "far ", 4);
        Due.faulty("", "far  1", 4);
        Due.faulty("", "draws", 4);
        Due.faulty("", "dra;", 3);
        Due.faulty("", "far 1;", 6);
        Due.faulty("", "far 1;;far 2", 6);
        Due.faulty("", "far 1; far 2", 6);
        Due.faulty("", "far 1;fur 2", 7);
        Due.faulty("", "far 1,far 2", 5);
        Due.faulty("", "far 1 ", 5);
        Due.whole("", "far 1;far 2;far 3", 3);
    }

    static void promise16FaultInNumbers() {
        Due.faulty("", "far 0", 4);
        Due.faulty("", "far 00", 4);
        Due.faulty("", "far 000", 4);
        Due.faulty("", "far 10", 4);
        Due.faulty("", "far 10;x", 4);
        Due.faulty("", "far 1x", 5);
        Due.faulty("", "far 0x", 4);
        Due.faulty("", "far -1", 4);
        Due.faulty("", "far 009", 4);
        Due.faulty("", "far 091", 6);
        Due.faulty("", "far 1 2", 5);
        Due.whole("", "far 09", 1);
        Due.whole("", "far 1;far 9", 2);
        Due.faulty("", "summer 2", 7);
        Due.faulty("", "summer 001", 9);
        Due.whole("", "summer 00;summer 01", 2);
    }

    static void promise16FaultInThings() {
        Due.whole("", "thing 0 0 0 0 0;thing 6 9 9 20 9", 2);
        Due.whole("", "thing 06 09 09 20 09", 1);
        Due.faulty("", "thing 7 10 0 0 0", 6);
        Due.faulty("", "thing 12 0 0 0 0", 6);
        Due.faulty("", "thing 1 10 0 0 0", 8);
        Due.faulty("", "thing 1 009 0 0 0", 10);
        Due.faulty("", "thing 1 9 10 0 0", 10);
        Due.faulty("", "thing 1 9 9 21 0", 12);
        Due.faulty("", "thing 1 9 9 20 10", 15);
        Due.faulty("", "thing 1 9 9 20", 14);
        Due.faulty("", "thing 1 9 9 20 ", 15);
        Due.faulty("", "thing 1 9 9 20;far 1", 14);
        Due.faulty("", "thing 1 9 9 20 9 1", 16);
        Due.faulty("thing 1 5 5 1 1", "thing 1 5 5 0 0", 10);
        Due.faulty("thing 1 5 5 1 1", "thing 1 5 05", 10);
        Due.faulty("thing 1 5 5 1 1", "thing 1 5 5x", 10);
        Due.faulty("thing 1 5 5 1 1", "thing 1 5 5 21 0", 10);
        Due.whole("thing 1 5 5 1 1", "thing 1 5 4 0 0;thing 1 4 5 0 0", 2);
        Due.faulty("", "thing 0 3 2 1 0;thing 0 3 2 1 0", 26);
    }

    static void promise16FaultInHouses() {
        String three = "thing 1 0 0 1 1;thing 0 1 1 1 1;thing 4 2 2 2 2";
        Due.whole(three, "shut 0 2;shut 2 0;draw 2", 3);
        Due.whole(three, "shut 00 02", 1);
        Due.faulty(three, "shut 1 0", 5);
        Due.faulty(three, "shut 3 0", 5);
        Due.faulty(three, "shut 1 x", 5);
        Due.faulty(three, "shut 0 1", 7);
        Due.faulty(three, "shut 0 0", 7);
        Due.faulty(three, "shut 00 03", 8);
        Due.faulty(three, "shut 0", 6);
        Due.faulty(three, "shut 0 ", 7);
        Due.faulty(three, "shut 0 2 0", 8);
        Due.faulty(three, "draw 1", 5);
        Due.faulty(three, "draw 3", 5);
        Due.faulty(three, "draw 99", 5);
        Due.faulty(three, "draw", 4);
        Due.faulty("", "draw 0", 5);
        Due.whole("", "thing 1 0 0 1 1;draw 0", 2);
        Due.faulty("", "draw 0;thing 1 0 0 1 1", 5);
        Due.faulty("", "thing 1 0 0 1 1;draw 1", 21);
    }

    static void promise16FaultWithoutRoom() {
        String seven = "thing 0 0 0 0 0;thing 0 1 0 0 0;thing 0 2 0 0 0;thing 0 3 0 0 0;thing 0 4 0 0 0;"
            + "thing 0 5 0 0 0;thing 0 6 0 0 0";
        String eight = seven + ";thing 1 7 0 0 0";
        Due.whole(seven, "thing 0 7 0 0 0;far 2", 2);
        Due.faulty(seven, "thing 0 7 0 0 0;thing 0 8 0 0 0", 16);
        Due.faulty(eight, "thing 0 8 0 0 0", 0);
        Due.faulty(eight, "thing 7 0 0 0 0", 0);
        Due.faulty(eight, "thing", 0);
        Due.faulty(eight, "thingx", 0);
        Due.faulty(eight, "far 3;thing", 6);
        Due.faulty(eight, "thinx", 4);
        Due.faulty(eight, "thin", 4);
        Due.faulty(eight, "far 3;t", 7);
        Due.whole(eight, "far 3;draw 7;summer 1", 3);
    }

    static void promise16FaultInTheLongestRow() {
        String most = "far 1;".repeat(25);
        Due.faulty("", most + "summer 01;", 160);
        Due.faulty("", most + "far 1;far ", 160);
        Due.faulty("", most + "far 1;summ", 160);
        Due.whole("", "far 1;".repeat(20) + "far 01;".repeat(5) + "far 1", 26);
    }

    static void promise16FaultOfTheLatest() {
        SeenByOne x = new SeenByOne();
        Due.put(x, 0, 0, "far 0");
        Due.put(x, 1, 0, "far 1");
        x.thing(0, 0, 0, 0, 0);
        x.show(2, 0);
        Due.is("none yet", x.fault(), -1);
        x.ground(0);
        Due.is("the FAULT", x.fault(), 4);
        Due.is("that came to no SHELF", x.ground(8), -1);
        Due.is("that came to a THING", x.ground(2), -2);
        Due.is("that came to NOTHING", x.ground(3), -3);
        Due.is("the FAULT still", x.fault(), 4);
        Due.is("a good one", x.ground(1), 1);
        Due.is("there was none", x.fault(), -1);
    }
}
