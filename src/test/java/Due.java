/** Counts the checks and has what many tests need: texts put into ROWS, grounds told. */
final class Due {
    /** Eight HOUSES that all see all, being of one HEIGHT. */
    static final String EIGHT = "thing 1 0 0 3 1;thing 1 1 0 3 1;thing 1 2 0 3 1;thing 1 3 0 3 1;thing 1 0 1 3 1;"
        + "thing 1 1 1 3 1;thing 1 2 1 3 1;thing 1 3 1 3 1";

    static int checked = 0;
    static int wrong = 0;
    static String test = "";

    private Due() {
    }

    static void is(String call, long got, long want) {
        checked++;
        if (got != want) {
            wrong++;
            System.out.println(test + ": " + call + " answered " + got + ", due is " + want);
        }
    }

    /** A new object with this GROUND. */
    static SeenByOne told(String text) {
        SeenByOne x = new SeenByOne();
        tell(x, text);
        return x;
    }

    /** Told call by call, so that only the tests of ground() lean on ground(). */
    static void tell(SeenByOne x, String text) {
        for (String item : text.split(";")) {
            String[] words = item.split(" ");
            int[] n = new int[words.length - 1];
            for (int i = 0; i < n.length; i++) {
                n[i] = Integer.parseInt(words[i + 1]);
            }
            int answer = switch (words[0]) {
                case "thing" -> x.thing(n[0], n[1], n[2], n[3], n[4]);
                case "summer" -> x.ask(0, n[0]);
                case "far" -> x.ask(1, n[0]);
                case "shut" -> x.shut(n[0], n[1], true);
                case "draw" -> x.draw(n[0], true);
                default -> -1;
            };
            is("told '" + item + "'", answer >= 0 ? 1 : 0, 1);
        }
    }

    static void put(SeenByOne x, int s, int sort, String text) {
        is("row for a text", x.row(s, sort, text.length()), 1);
        for (int i = 0; i < text.length(); i++) {
            x.set(s, i, text.charAt(i));
        }
    }

    static void put(SeenByOne x, int s, int sort, long... elements) {
        is("row for elements", x.row(s, sort, elements.length), 1);
        for (int i = 0; i < elements.length; i++) {
            x.set(s, i, elements[i]);
        }
    }

    private static SeenByOne read(String before, String text, int answer, int fault) {
        SeenByOne x = before.isEmpty() ? new SeenByOne() : told(before);
        put(x, 0, 0, text);
        is("ground of '" + text + "'", x.ground(0), answer);
        is("fault of '" + text + "'", x.fault(), fault);
        return x;
    }

    /** A text with a FAULT at this place, told over a ground from before. */
    static void faulty(String before, String text, int place) {
        is("counted", read(before, text, -6, place).status(16), 1);
    }

    /** A text of so many ITEMS, told over a ground from before. */
    static void whole(String before, String text, int items) {
        is("counted", read(before, text, items, -1).status(16), 0);
    }

    static void cheapest(SeenByOne x, int cost, int hopeless, int shutters) {
        is("cheapest(0)", x.cheapest(0), cost);
        is("cheapest(1)", x.cheapest(1), hopeless);
        is("cheapest(2)", x.cheapest(2), shutters);
    }

    static void curtains(SeenByOne x, int set, int right, int both, int rightInBoth) {
        is("curtains(0)", x.curtains(0), set);
        is("curtains(1)", x.curtains(1), right);
        is("curtains(2)", x.curtains(2), both);
        is("curtains(3)", x.curtains(3), rightInBoth);
    }

    /** The LIST that SHELF 0 tells. */
    static void list(SeenByOne x, int wrong, int unlike, int fits) {
        is("list(0, 0)", x.list(0, 0), wrong);
        is("list(0, 1)", x.list(0, 1), unlike);
        is("list(0, 2)", x.list(0, 2), fits);
    }

    /** Whatever a test has refused, by code. */
    static void refused(SeenByOne x, int nobody, int other, int nothing, int below, int beyond, int wrongs, int room) {
        int[] want = {nobody, other, nothing, below, beyond, wrongs, room};
        for (int i = 0; i < want.length; i++) {
            is("status(" + (11 + i) + ")", x.status(11 + i), want[i]);
        }
    }
}
