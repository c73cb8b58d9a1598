/** Counts the checks and has what many tests need: texts put into ROWS, grounds told. */
final class Due {
    static int checked = 0;
    static int wrong = 0;
    static String test = "";

    private Due() {
    }

    static void is(String call, long got, long want) {
        checked++;
        if (got != want) {
            wrong++;
            System.out.println(test + ": " + call + " answered " + got + ", due is " + want);
        }
    }

    /** A new object with this GROUND, its SHELVES empty again. */
    static SeenByOne told(String text) {
        SeenByOne x = new SeenByOne();
        tell(x, text);
        return x;
    }

    /** Tells it by SHELF 7, and by several ROWS where it is longer than one. */
    static void tell(SeenByOne x, String text) {
        StringBuilder part = new StringBuilder();
        for (String item : text.split(";")) {
            if (part.length() + item.length() + 1 > 160) {
                tellPart(x, part.toString());
                part.setLength(0);
            }
            part.append(part.length() == 0 ? "" : ";").append(item);
        }
        tellPart(x, part.toString());
        x.show(7, SeenByOne.NONE);
    }

    private static void tellPart(SeenByOne x, String text) {
        put(x, 7, 0, text);
        is("ground of '" + text + "'", x.ground(7), text.split(";").length);
    }

    static void put(SeenByOne x, int s, int sort, String text) {
        is("row for a text", x.row(s, sort, text.length()), 1);
        for (int i = 0; i < text.length(); i++) {
            x.set(s, i, text.charAt(i));
        }
    }

    static void put(SeenByOne x, int s, int sort, long... elements) {
        is("row for elements", x.row(s, sort, elements.length), 1);
        for (int i = 0; i < elements.length; i++) {
            x.set(s, i, elements[i]);
        }
    }

    /** Whatever a test has refused, by code. */
    static void refused(SeenByOne x, int nobody, int other, int nothing, int below, int beyond, int wrongs, int room) {
        int[] want = {nobody, other, nothing, below, beyond, wrongs, room};
        for (int i = 0; i < want.length; i++) {
            is("status(" + (11 + i) + ")", x.status(11 + i), want[i]);
        }
    }
}
