/** Promises 41 to 43: THE IMAGE, and how many there are. */
final class ImageTests {
    private ImageTests() {
    }

    static void promise41ImageAndBack() {
        SeenByOne x = Due.told("thing 1 0 0 3 2;thing 1 1 0 3 0;thing 2 5 5 3 1;summer 0;far 4;shut 0 1;draw 1");
        x.seed(5);
        x.years(2);
        int fines = x.status(6);
        int seed = x.status(7);
        int height = x.thingOf(2, 3);
        Due.is("image()", x.image(), 3);
        Due.tell(x, "thing 1 2 0 3 0;summer 1;far 8;shut 1 0;shut 3 0;draw 0;draw 3");
        x.shut(0, 1, false);
        x.height(0, 9);
        x.years(3);
        x.seed(77);
        Due.is("restore()", x.restore(), 3);
        int[] want = {3, 3, 0, 4, 1, 1, fines, seed};
        for (int what = 0; what < want.length; what++) {
            Due.is("status(" + what + ")", x.status(what), want[what]);
        }
        Due.is("HEIGHT", x.thingOf(0, 3), 3);
        Due.is("HEIGHT of the TREE", x.thingOf(2, 3), height);
        Due.is("the sight is SHUT", x.sees(0, 1, 1), 0);
        Due.is("no such THING", x.thingOf(3, 0), -5);
        Due.is("its PLACE is free", x.thing(1, 2, 0, 3, 0), 3);
        Due.is("it is DRAWN no more", x.thingOf(3, 6), 0);
        Due.is("its sights are free", x.sees(3, 0, 1), 1);
    }

    static void promise41ImageOfTheLatest() {
        SeenByOne x = Due.told("thing 1 0 0 3 2");
        Due.is("image()", x.image(), 1);
        x.height(0, 7);
        x.thing(1, 1, 1, 1, 1);
        Due.is("image() anew", x.image(), 2);
        x.height(0, 9);
        Due.is("restore()", x.restore(), 2);
        Due.is("HEIGHT", x.thingOf(0, 3), 7);
        x.height(0, 10);
        Due.is("restore() again", x.restore(), 2);
        Due.is("HEIGHT", x.thingOf(0, 3), 7);
        Due.is("image() of none", new SeenByOne().image(), 0);
    }

    static void promise42RestoreLeavesTheRest() {
        SeenByOne x = Due.told("thing 1 0 0 3 2");
        x.image();
        x.thing(1, 1, 0, 3, 2);
        x.thing(1, 2, 0, 3, 2);
        x.show(0, 0);
        x.show(1, 1);
        x.show(2, 2);
        Due.put(x, 3, 0, "far 0");
        x.ground(3);
        x.act(2, 1, 5);
        Due.is("restore()", x.restore(), 1);
        Due.is("a SHELF with a THING that is there", x.holds(0), 0);
        Due.is("with one that isn't", x.holds(1), -1);
        Due.is("with one that isn't", x.holds(2), -1);
        Due.is("with a ROW", x.holds(3), 100);
        Due.is("its elements", x.element(3, 4), '0');
        Due.is("the FAULT", x.fault(), 4);
        Due.is("THE TRACE", x.trace(0), 11);
        Due.is("bodies", x.status(8), 3);
        x.thing(1, 5, 5, 5, 5);
        Due.is("NOTHING stays", x.holds(1), -1);
        Due.refused(x, 0, 0, 0, 0, 0, 1, 0);
    }

    static void promise42RestoreOfEachShelf() {
        SeenByOne x = new SeenByOne();
        x.image();
        for (int n = 0; n < 8; n++) {
            x.thing(1, n, 0, n, n);
            x.show(n, n);
        }
        Due.is("restore()", x.restore(), 0);
        for (int s = 0; s < 8; s++) {
            Due.is("holds(" + s + ")", x.holds(s), -1);
        }
        for (int n = 0; n < 8; n++) {
            x.thing(n % 7, 9 - n, n, 20 - n, n);
        }
        x.shut(5, 3, true);
        Due.is("HOUSES", x.status(1), 2 + 8 + 16 + 32);
        Due.is("image()", x.image(), 8);
        x.height(7, 0);
        Due.is("restore()", x.restore(), 8);
        for (int n = 0; n < 8; n++) {
            int[] want = {n % 7, 9 - n, n, 20 - n, n};
            for (int what = 0; what < 5; what++) {
                Due.is("thingOf(" + n + ", " + what + ")", x.thingOf(n, what), want[what]);
            }
        }
    }

    /** "SHELVES with THINGS hold those of these numbers, or NOTHING": whatever their KINDS. */
    static void promise42RestoreOfEachKind() {
        SeenByOne x = new SeenByOne();
        for (int kind = 0; kind < 7; kind++) {
            x.thing(kind, kind, 0, 3, 1);
            x.show(kind, kind);
        }
        x.image();
        x.thing(1, 9, 9, 3, 1);
        x.show(7, 7);
        Due.is("restore()", x.restore(), 7);
        for (int kind = 0; kind < 7; kind++) {
            Due.is("holds(" + kind + ")", x.holds(kind), kind);
            Due.is("says(" + kind + ", " + kind + ") isn't refused", x.says(kind, kind) >= 0 ? 1 : 0, 1);
        }
        Due.is("the one that isn't there", x.holds(7), -1);
    }

    /** The last THING that THE IMAGE has, and the first that it hasn't. */
    static void promise42RestoreOfTheLastNumber() {
        for (int things = 0; things < 8; things++) {
            SeenByOne x = new SeenByOne();
            for (int n = 0; n < 8; n++) {
                if (n == things) {
                    Due.is("image()", x.image(), things);
                }
                x.thing(n % 7, n, n, 3, 1);
                x.show(7 - n, n);
            }
            Due.is("restore()", x.restore(), things);
            for (int n = 0; n < 8; n++) {
                Due.is("holds(" + (7 - n) + ") of " + things, x.holds(7 - n), n < things ? n : -1);
            }
        }
    }

    /** The last THING comes back out of THE IMAGE whole, even where nothing was in its stead. */
    static void promise42RestoreOfTheLastThing() {
        SeenByOne x = new SeenByOne();
        x.image();
        for (int n = 0; n < 7; n++) {
            x.thing(0, n, 0, 0, 0);
        }
        x.thing(3, 9, 8, 7, 6);
        x.height(6, 5);
        Due.is("image()", x.image(), 8);
        x.height(7, 1);
        x.restore();
        int[] want = {3, 9, 8, 7, 6};
        for (int what = 0; what < 5; what++) {
            Due.is("thingOf(7, " + what + ")", x.thingOf(7, what), want[what]);
        }
    }

    static void promise42RestoreRefusals() {
        SeenByOne x = Due.told("thing 1 0 0 3 2");
        Due.is("restore()", x.restore(), -6);
        Due.is("THINGS", x.status(0), 1);
        Due.is("restore()", x.restore(), -6);
        x.image();
        Due.is("restore()", x.restore(), 1);
        Due.refused(x, 0, 0, 0, 0, 0, 2, 0);
    }

    static void promise43Status() {
        SeenByOne x = Due.told("thing 0 0 0 1 1;thing 1 1 0 3 0;thing 2 2 9 3 0;thing 3 2 2 3 0;thing 4 9 3 3 0;"
            + "thing 5 5 4 3 0;thing 6 6 6 3 0;summer 0;far 7;shut 1 3;shut 3 1;shut 5 4;draw 5;draw 1");
        x.seed(-9);
        x.act(5, 2, 0);
        int[] want = {7, 2 + 8 + 16 + 32, 0, 7, 3, 2, 0, -9, 7};
        for (int what = 0; what < want.length; what++) {
            Due.is("status(" + what + ")", x.status(what), want[what]);
        }
        Due.is("status(-1)", x.status(-1), -1);
        Due.is("status(9)", x.status(9), -1);
        Due.is("status(10)", x.status(10), -1);
        Due.is("status(18)", x.status(18), -1);
        Due.is("status(most)", x.status(Integer.MAX_VALUE), -1);
        Due.is("status(least)", x.status(Integer.MIN_VALUE), -1);
        Due.refused(x, 0, 0, 0, 0, 0, 0, 0);
    }

    static void promise43StatusOfRefusals() {
        SeenByOne x = new SeenByOne();
        x.row(8, 0, 0);
        x.show(8, 0);
        x.thing(0, 0, 0, 0, 0);
        x.draw(0, true);
        x.felled(1);
        x.back(0);
        x.keeps(0);
        x.list(0, 0);
        x.row(0, 0, -1);
        x.most();
        x.row(0, 0, 0);
        x.list(0, 0);
        x.cheapest(3);
        x.ask(2, 2);
        x.row(0, 0, 161);
        Due.refused(x, 3, 3, 1, 1, 3, 1, 1);
        Due.refused(x, 3, 3, 1, 1, 3, 1, 1);
    }
}
