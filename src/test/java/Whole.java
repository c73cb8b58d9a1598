import java.util.ArrayList;
import java.util.List;

/** All that can be asked of an object without being refused, to tell whether anything has changed. */
final class Whole {
    private static final int MOST_ELEMENTS_ASKED = 8;
    private static final int MOST_BODIES_ASKED = 10;

    private final List<String> calls = new ArrayList<>();
    private final List<Long> answers = new ArrayList<>();

    private Whole(SeenByOne x) {
        shelves(x);
        things(x);
        sights(x);
        note("fault()", x.fault());
        for (int i = 0; i < MOST_BODIES_ASKED; i++) {
            note("trace(" + i + ")", x.trace(i));
        }
        for (int what = 0; what < 9; what++) {
            note("status(" + what + ")", x.status(what));
        }
    }

    private void note(String call, long answer) {
        calls.add(call);
        answers.add(answer);
    }

    private void shelves(SeenByOne x) {
        for (int s = 0; s < 8; s++) {
            int holds = x.holds(s);
            note("holds(" + s + ")", holds);
            for (int i = 0; i < MOST_ELEMENTS_ASKED && holds >= 100; i++) {
                note("element(" + s + ", " + i + ")", x.element(s, i));
            }
        }
    }

    private void things(SeenByOne x) {
        int things = x.status(0);
        for (int thing = 0; thing < things; thing++) {
            for (int what = 0; what < 7; what++) {
                note("thingOf(" + thing + ", " + what + ")", x.thingOf(thing, what));
            }
        }
    }

    private void sights(SeenByOne x) {
        int houses = x.status(1);
        for (int i = 0; i < 8; i++) {
            for (int j = 0; j < 8; j++) {
                if (i != j && (houses >> i & houses >> j & 1) == 1) {
                    note("sees(" + i + ", " + j + ", 1)", x.sees(i, j, 1));
                }
            }
        }
        note("right()", x.right());
        note("cheapest(0)", x.cheapest(0));
        note("curtains(0)", x.curtains(0));
        note("curtains(2)", x.curtains(2));
    }

    /** What two objects that were asked the same answer must be the same. */
    static void same(String behind, SeenByOne x, SeenByOne y) {
        Whole one = new Whole(x);
        Whole other = new Whole(y);
        Due.is(behind + ": as many answers", one.calls.size(), other.calls.size());
        for (int i = 0; i < Math.min(one.calls.size(), other.calls.size()); i++) {
            Due.is(behind + ": " + one.calls.get(i), one.answers.get(i), other.answers.get(i));
        }
    }
}
