/** Counts the checks and has what many tests need: texts put into ROWS, grounds told. */
final class Due {
    static int checked = 0;
    static int wrong = 0;
    static String test = "";

    private Due() {
    }

    static void is(String call, long got, long want) {
        checked++;
        if (got != want) {
            wrong++;
            System.out.println(test + ": " + call + " answered " + got + ", due is " + want);
        }
    }

    /** A new object with this GROUND. */
    static SeenByOne told(String text) {
        SeenByOne x = new SeenByOne();
        tell(x, text);
        return x;
    }

    /** Told call by call, so that only the tests of ground() lean on ground(). */
    static void tell(SeenByOne x, String text) {
        for (String item : text.split(";")) {
            String[] words = item.split(" ");
            int[] n = new int[words.length - 1];
            for (int i = 0; i < n.length; i++) {
                n[i] = Integer.parseInt(words[i + 1]);
            }
            int answer = switch (words[0]) {
                case "thing" -> x.thing(n[0], n[1], n[2], n[3], n[4]);
                case "summer" -> x.ask(0, n[0]);
                case "far" -> x.ask(1, n[0]);
                case "shut" -> x.shut(n[0], n[1], true);
                case "draw" -> x.draw(n[0], true);
                default -> -1;
            };
            is("told '" + item + "'", answer >= 0 ? 1 : 0, 1);
        }
    }

    static void put(SeenByOne x, int s, int sort, String text) {
        is("row for a text", x.row(s, sort, text.length()), 1);
        for (int i = 0; i < text.length(); i++) {
            x.set(s, i, text.charAt(i));
        }
    }

    static void put(SeenByOne x, int s, int sort, long... elements) {
        is("row for elements", x.row(s, sort, elements.length), 1);
        for (int i = 0; i < elements.length; i++) {
            x.set(s, i, elements[i]);
        }
    }

    /** Whatever a test has refused, by code. */
    static void refused(SeenByOne x, int nobody, int other, int nothing, int below, int beyond, int wrongs, int room) {
        int[] want = {nobody, other, nothing, below, beyond, wrongs, room};
        for (int i = 0; i < want.length; i++) {
            is("status(" + (11 + i) + ")", x.status(11 + i), want[i]);
        }
    }
}
