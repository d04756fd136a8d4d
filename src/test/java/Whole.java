import java.util.NoSuchElementException;

/**
 * All that can be seen of an object, as one text, for tests that a call changed nothing. The object is used up
 * by it: LAWS are held in turn, ACTS undone, the IMAGE brought back.
 */
final class Whole {
    private static final int[] SOME_ROWS = {0, 1, 2, 3, 4, 57, 58, 59};

    private final GuiltySleep x;
    private final StringBuilder seen = new StringBuilder();

    private Whole(GuiltySleep x) {
        this.x = x;
    }

    static String of(GuiltySleep x) {
        Whole whole = new Whole(x);
        whole.standing();
        whole.lists();
        whole.lamps();
        whole.tape();
        whole.laws();
        whole.past();
        return whole.seen.toString();
    }

    private void put(String what, long answer) {
        seen.append(what).append(' ').append(answer).append('\n');
    }

    private void standing() {
        for (int what = 0; what < 14; what++) {
            put("count", x.count(what));
        }
        for (int what = 0; what < 3; what++) {
            put("rule", x.rule(what));
        }
        for (int watch = 0; watch < 4; watch++) {
            for (int hour = 0; hour < 9; hour += watch == 0 ? 1 : 4) {
                put("watched", x.watched(watch, hour));
            }
        }
        people();
    }

    private void people() {
        for (int person = 0; person < x.count(0); person++) {
            for (int what = 0; what < 8; what++) {
                put("person", x.person(person, what));
            }
        }
    }

    private void lists() {
        for (int i : SOME_ROWS) {
            for (int what = 0; what < 5; what++) {
                put("book", x.book(i, what));
            }
            for (int what = 0; what < 3; what++) {
                put("log", x.log(i, what));
            }
        }
    }

    private void lamps() {
        for (int what = 0; what < 3; what++) {
            put("who", x.who(4, what));
        }
        for (int person = 0; person < x.count(0); person++) {
            put("candle", x.candle(person, 1, GuiltySleep.NONE));
            put("likeliest", x.likeliest(person, 2));
        }
    }

    private void tape() {
        for (int sort = 0; sort < 3; sort++) {
            put("fault", x.fault(sort));
        }
        put("shorter", x.end(x.count(3) - 1) ? 1 : 0);
        put("fault", x.fault(1));
    }

    private void laws() {
        for (int law = 0; law < 4; law++) {
            put("law", x.law(law) ? 1 : 0);
            put("wakes", x.wakes(0, 0));
            put("wakes", x.wakes(0, 1));
            put("wronged", x.wronged(law));
            put("points", x.points(0));
        }
    }

    private void past() {
        for (int i = 0; i < 41; i++) {
            put("undo", x.undo());
            put("night", x.count(6));
        }
        people();
        put("back", x.back());
        for (int what = 6; what < 14; what++) {
            put("count", x.count(what));
        }
        people();
    }

    /** What a PERSON's answer is, or that it is none. */
    static long person(GuiltySleep x, int person, int what) {
        try {
            return x.person(person, what);
        } catch (NoSuchElementException e) {
            return Long.MIN_VALUE;
        }
    }
}
