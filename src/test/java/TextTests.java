import java.util.Arrays;
import java.util.function.IntPredicate;

/** Terms, 1. THE GROUND, and Details: the texts of GROUNDS, sign by sign. */
final class TextTests {
    /** THINGS 0, 2 and 3 are HOUSES; 1 is a wall at X 3, Y 4. */
    private static final String BEFORE = "thing 1 0 0 1 1;thing 0 3 4 1 1;thing 4 2 2 2 2;thing 5 8 8 2 2";
    private static final String EVERY_ITEM = "thing 1 9 9 2 5;shut 0 2;draw 0;summer 0;far 3";

    private static final String FULL = "thing 0 0 0 0 0;thing 0 1 0 0 0;thing 0 2 0 0 0;thing 0 3 0 0 0;"
        + "thing 0 4 0 0 0;thing 0 5 0 0 0;thing 0 6 0 0 0;thing 1 7 0 0 0";

    private TextTests() {
    }

    /** "ITEM, then any number of times ; and ITEM": none, one, two, as many as a ROW can hold. */
    static void terms1TextOfItems() {
        Due.faulty(BEFORE, "", 0);
        Due.whole(BEFORE, "far 1", 1);
        Due.whole(BEFORE, "far 1;far 2", 2);
        Due.whole(BEFORE, "far 1" + ";far 2".repeat(25), 26);
        Due.whole(BEFORE, EVERY_ITEM, 5);
        Due.faulty(BEFORE, ";far 1", 0);
        Due.faulty(BEFORE, "far 1;", 6);
        Due.faulty(BEFORE, "far 1;;far 2", 6);
        Due.faulty(BEFORE, "far 1,far 2", 5);
        Due.faulty(BEFORE, "far 1far 2", 5);
    }

    /** "(the number of elements, if it ends too early)": wherever no ITEM ends. */
    static void terms1TextEndsTooEarly() {
        for (int length = 0; length < EVERY_ITEM.length(); length++) {
            String begun = EVERY_ITEM.substring(0, length);
            if (EVERY_ITEM.charAt(length) == ';') {
                Due.whole(BEFORE, begun, begun.split(";").length);
            } else {
                Due.faulty(BEFORE, begun, length);
            }
        }
    }

    /** "The FAULT: the first place at which an element can't stand": each place, each sort of sign. */
    static void terms1TextSignThatCantStand() {
        char[] signs = {'~', 0, '\n', 255, 'T', 'x', '-', ',', '/', ':'};
        for (int place = 0; place < EVERY_ITEM.length(); place++) {
            for (char sign : signs) {
                Due.faulty(BEFORE, EVERY_ITEM.substring(0, place) + sign + EVERY_ITEM.substring(place + 1), place);
            }
        }
        Due.faulty(BEFORE, EVERY_ITEM + "~", EVERY_ITEM.length());
        Due.faulty(BEFORE, EVERY_ITEM + " ", EVERY_ITEM.length());
    }

    /** The first of two that can't stand. */
    static void terms1TextFirstOfTwoFaults() {
        Due.faulty(BEFORE, "far 0;far 10", 4);
        Due.faulty(BEFORE, "far 1;fur 0", 7);
        Due.faulty(BEFORE, "thing 7 10 10 21 10", 6);
        Due.faulty(BEFORE, "thing 6 10 10 21 10", 8);
        Due.faulty(BEFORE, "thing 6 9 10 21 10", 10);
        Due.faulty(BEFORE, "thing 6 9 9 21 10", 12);
        Due.faulty(BEFORE, "thing 6 9 9 20 10", 15);
        Due.faulty(BEFORE, "shut 1 1", 5);
        Due.faulty(BEFORE, "summer 2x", 7);
        Due.faulty(BEFORE, "far 0", 4);
    }

    /** Words that begin alike: the first letter that none of them has. */
    static void terms1TextWords() {
        Due.faulty(BEFORE, "sammer 0", 1);
        Due.faulty(BEFORE, "shmmer 0", 2);
        Due.faulty(BEFORE, "suut 0 2", 2);
        Due.faulty(BEFORE, "sumer 0", 3);
        Due.faulty(BEFORE, "shot 0 2", 2);
        Due.faulty(BEFORE, "tar 1", 1);
        Due.faulty(BEFORE, "fhing 1", 1);
        Due.faulty(BEFORE, "drow 0", 2);
        Due.faulty(BEFORE, "things 1 9 9 2 5", 5);
        Due.faulty(BEFORE, "FAR 1", 0);
    }

    /** "One blank between words and NUMBERS": none, two, and where there is none. */
    static void terms1TextOneBlank() {
        for (int place = 0; place < EVERY_ITEM.length(); place++) {
            char sign = EVERY_ITEM.charAt(place);
            Due.faulty(BEFORE, EVERY_ITEM.substring(0, place) + " " + EVERY_ITEM.substring(place), sign == ' ' ? place + 1 : place);
        }
        Due.faulty(BEFORE, "thing1 9 9 2 5", 5);
        Due.faulty(BEFORE, "shut0 2", 4);
        Due.faulty(BEFORE, "draw0", 4);
        Due.faulty(BEFORE, "summer0", 6);
        Due.faulty(BEFORE, "far3", 3);
        Due.faulty(BEFORE, "far\t3", 3);
    }

    /** "NUMBERS (1 or 2 digits)": none, one, two, three. */
    static void terms1TextDigits() {
        String[] behind = {"thing", "thing 1", "thing 1 9", "thing 1 9 8", "thing 1 9 8 7", "summer", "far", "shut", "shut 2", "draw"};
        String[] last = {" 1 9 9 2 5", " 9 9 2 5", " 9 2 5", " 2 5", " 5", " 1", " 3", " 0 2", " 0", " 0"};
        for (int n = 0; n < behind.length; n++) {
            String digit = last[n].substring(1, 2);
            String rest = last[n].substring(2);
            Due.whole(BEFORE, behind[n] + " " + digit + rest, 1);
            Due.whole(BEFORE, behind[n] + " 0" + digit + rest, 1);
            Due.faulty(BEFORE, behind[n] + " " + rest, behind[n].length() + 1);
            Due.faulty(BEFORE, behind[n] + " 0" + digit + "0" + rest, behind[n].length() + 3);
        }
    }

    /** Each NUMBER from 0 to 99, with one digit and with two, stands or is the FAULT with its first digit. */
    private static void numbers(String head, String tail, IntPredicate may) {
        for (int number = 0; number < 100; number++) {
            String[] forms = number < 10 ? new String[] {"" + number, "0" + number} : new String[] {"" + number};
            for (String form : forms) {
                if (may.test(number)) {
                    Due.whole(BEFORE, head + form + tail, 1);
                } else {
                    Due.faulty(BEFORE, head + form + tail, head.length());
                    Due.faulty(BEFORE, head + form, head.length());
                }
            }
        }
    }

    /** "of a NUMBER that may not be the place of its first digit": each NUMBER of each ITEM. */
    static void terms1TextNumberThatMayNotBe() {
        numbers("thing ", " 9 9 1 1", kind -> kind <= 6);
        numbers("thing 1 ", " 9 1 1", place -> place <= 9);
        numbers("thing 1 9 ", " 1 1", place -> place <= 9);
        numbers("thing 1 9 9 ", " 1", height -> height <= 20);
        numbers("thing 1 9 9 20 ", "", a -> a <= 9);
        numbers("summer ", "", summer -> summer <= 1);
        numbers("far ", "", far -> far >= 1 && far <= 9);
        numbers("draw ", "", house -> house == 0 || house == 2 || house == 3);
    }

    /** "shut I J (HOUSES, unlike: the sight of I into J)" */
    static void terms1TextShutOfHousesUnlike() {
        numbers("shut 0 ", "", house -> house == 2 || house == 3);
        numbers("shut 02 ", "", house -> house == 0 || house == 3);
        numbers("shut 3 ", "", house -> house == 0 || house == 2);
        for (int number = 0; number < 100; number++) {
            if (number == 0 || number == 2 || number == 3) {
                Due.whole(BEFORE, "shut " + number + (number == 0 ? " 2" : " 0"), 1);
                Due.faulty(BEFORE, "shut " + number + " " + number, 7);
                Due.faulty(BEFORE, "shut 0" + number + " " + number, 8);
                Due.faulty(BEFORE, "shut " + number + " 0" + number, 7);
            } else {
                Due.faulty(BEFORE, "shut " + number + " 0", 5);
                Due.faulty(BEFORE, "shut " + number, 5);
            }
        }
    }

    /** "(what there is no room for can't stand: its word ..)": the eighth stands, the ninth doesn't. */
    static void terms1TextWithoutRoom() {
        String seven = FULL.substring(0, FULL.lastIndexOf(';'));
        Due.whole(seven, "thing 1 9 9 1 1", 1);
        Due.faulty(seven, "thing 1 9 9 1 1;thing 1 8 9 1 1", 16);
        Due.faulty(FULL, "thing 1 9 9 1 1", 0);
        Due.faulty(FULL, "far 1;thing 1 9 9 1 1", 6);
        Due.faulty(FULL, "thing 7 0 0 21 10", 0);
        Due.faulty(FULL, "thing 1 9 9 1 1;far 0", 0);
        Due.whole(FULL, "far 1;draw 7;summer 0", 3);
        Due.whole("far 9", FULL, 8);
        Due.faulty("far 9", FULL + ";thing 1 9 9 1 1", FULL.length() + 1);
    }

    /** Details: "Whether there is room for a word is asked when its letters stand whole: until then .." */
    static void terms1TextRoomIsAskedOfAWholeWord() {
        String word = "thing";
        for (int length = 0; length < word.length(); length++) {
            Due.faulty(FULL, word.substring(0, length), length);
            Due.faulty(FULL, word.substring(0, length) + "~", length);
            Due.faulty(FULL, "far 1;" + word.substring(0, length), 6 + length);
        }
        Due.faulty(FULL, word, 0);
        Due.faulty(FULL, word + "~", 0);
        Due.faulty(FULL, word + " ", 0);
        Due.faulty(FULL, "far 1;" + word, 6);
    }

    /** "a PLACE that is taken: Y": one of before, one of this text; another X or Y is free. */
    static void terms1TextPlaceThatIsTaken() {
        Due.faulty(BEFORE, "thing 1 3 4 1 1", 10);
        Due.faulty(BEFORE, "thing 1 03 04 1 1", 11);
        Due.faulty(BEFORE, "thing 1 3 4", 10);
        Due.faulty(BEFORE, "thing 1 3 4~", 10);
        Due.faulty(BEFORE, "thing 1 3 4 21 10", 10);
        Due.faulty(BEFORE, "thing 1 7 6 1 1;thing 1 7 6 1 1", 26);
        Due.whole(BEFORE, "thing 1 7 6 1 1;thing 1 6 7 1 1;thing 1 7 7 1 1;thing 1 6 6 1 1", 4);
        Due.whole(BEFORE, "thing 1 3 3 1 1;thing 1 4 4 1 1;thing 1 4 3 1 1", 3);
        Due.faulty("thing 1 0 0 1 1", "thing 1 0 0 1 1", 10);
        Due.faulty("thing 1 9 9 1 1", "thing 1 9 9 1 1", 10);
    }

    /** "All is told over what there is, or nothing": whatever stands in front of a FAULT, nothing. */
    static void terms1TextAllOrNothing() {
        String[] items = EVERY_ITEM.split(";");
        for (int n = 1; n <= items.length; n++) {
            SeenByOne x = Due.told(BEFORE);
            SeenByOne unasked = Due.told(BEFORE);
            String text = String.join(";", Arrays.copyOf(items, n)) + ";far 0";
            Due.put(x, 0, 0, text);
            Due.put(unasked, 0, 0, text);
            Due.is("ground of '" + text + "'", x.ground(0), -6);
            x.row(0, 0, 0);
            unasked.row(0, 0, 0);
            unasked.ground(0);
            Due.is("fault()", x.fault(), text.length() - 1);
            x.ground(0);
            Whole.same("behind '" + text + "'", x, unasked);
        }
    }

    /** Over what there is: what a text doesn't tell stays. */
    static void terms1TextOverWhatThereIs() {
        SeenByOne x = Due.told(BEFORE + ";summer 0;far 4;shut 2 0;draw 2");
        Due.put(x, 0, 0, "thing 3 9 9 2 5;shut 0 2;shut 4 0;draw 0");
        Due.is("ITEMS", x.ground(0), 4);
        int[] want = {5, 1 + 4 + 8 + 16, 0, 4, 3, 2};
        for (int what = 0; what < want.length; what++) {
            Due.is("status(" + what + ")", x.status(what), want[what]);
        }
        Due.is("2's curtain is DRAWN still", x.draw(2, true), 0);
        Due.is("2's sight into 0 is SHUT still", x.shut(2, 0, true), 0);
        Due.is("and the new one's, too", x.shut(4, 0, true), 0);
        Due.is("not the other way about", x.shut(0, 4, true), 1);
        Due.put(x, 0, 0, "far 9;summer 1;draw 0;shut 0 2");
        Due.is("ITEMS that are so already", x.ground(0), 4);
        Due.is("SHUTTERS", x.status(4), 4);
        Due.is("curtains", x.status(5), 2);
        Due.is("SUMMER", x.status(2), 1);
        Due.is("FAR", x.status(3), 9);
    }

    private static void lettersOf(int sort, long added, boolean may) {
        String text = "far 4";
        for (int place = 0; place < text.length(); place++) {
            SeenByOne x = new SeenByOne();
            Due.put(x, 0, sort, text);
            x.set(0, place, text.charAt(place) + added);
            Due.is("SORT " + sort + ", place " + place + " + " + added, x.ground(0), may ? 1 : -6);
            Due.is("fault()", x.fault(), may ? -1 : place);
        }
    }

    /** "(As ints: of longs the lowest 32 bits.)"; of each SORT the bits that it keeps. */
    static void terms1TextAsInts() {
        lettersOf(0, 1 << 8, true);
        lettersOf(1, 1 << 8, false);
        lettersOf(1, 1 << 16, true);
        lettersOf(2, 1 << 16, false);
        lettersOf(2, 1L << 32, true);
        lettersOf(3, 1L << 16, false);
        lettersOf(3, 1L << 31, false);
        lettersOf(3, 1L << 32, true);
        lettersOf(3, -1L << 32, true);
        lettersOf(3, 1L << 63, true);
    }

    /** 160 elements are read to the last one. */
    static void terms1TextOfTheLongestRow() {
        String nearly = "far 1;".repeat(25);
        Due.whole(BEFORE, "far 01;".repeat(5) + "far 1;".repeat(20) + "far 9", 26);
        Due.faulty(BEFORE, nearly + "far 1;fur ", 157);
        Due.faulty(BEFORE, nearly + "summer 02;", 157);
        Due.faulty(BEFORE, nearly + "summer 01;", 160);
        Due.faulty(BEFORE, nearly + "summer 001", 159);
    }

    /** Promise 16: "The FAULT of the latest ground() that came to a ROW; NONE: there was none, or none yet." */
    static void promise16FaultFirstAndLast() {
        SeenByOne x = Due.told(BEFORE);
        Due.is("none yet", x.fault(), -1);
        Due.is("that came to NOTHING", x.ground(0), -3);
        Due.is("none yet", x.fault(), -1);
        x.row(0, 0, 0);
        Due.is("at 0", x.ground(0), -6);
        Due.is("the first place", x.fault(), 0);
        x.row(0, 0, 160);
        for (int i = 0; i < 160; i++) {
            x.set(0, i, "far 1;".charAt(i % 6));
        }
        Due.is("at 160", x.ground(0), -6);
        Due.is("behind the last place", x.fault(), 160);
        x.row(1, 0, 160);
        x.show(2, 3);
        Due.is("no SHELF", x.ground(8), -1);
        Due.is("a THING", x.ground(2), -2);
        Due.is("the FAULT still", x.fault(), 160);
        Due.is("another ROW", x.ground(1), -6);
        Due.is("its FAULT", x.fault(), 0);
        Due.put(x, 0, 0, "far 1");
        Due.is("a good one", x.ground(0), 1);
        Due.is("there was none", x.fault(), -1);
    }
}
