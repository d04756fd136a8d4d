import java.util.NoSuchElementException;

/** What the tests share: asking, telling what is wrong, feeding texts. */
final class Check {
    private static int wrong = 0;
    private static int asked = 0;

    private Check() {
    }

    static void due(String what, long got, long want) {
        asked++;
        if (got != want) {
            wrong++;
            if (wrong <= 50) {
                System.out.println(what + " answered " + got + ", due is " + want);
            }
        }
    }

    static void due(String what, boolean got, boolean want) {
        due(what, got ? 1L : 0L, want ? 1L : 0L);
    }

    static void refusedPerson(GuiltySleep x, int person, int what) {
        boolean thrown = false;
        try {
            x.person(person, what);
        } catch (NoSuchElementException e) {
            thrown = true;
        }
        due("person(" + person + ", " + what + ") throws", thrown, true);
    }

    /** The TAPE is this text and nothing else. */
    static void tape(GuiltySleep x, String text) {
        x.end(0);
        feed(x, text);
    }

    static void feed(GuiltySleep x, String text) {
        for (int i = 0; i < text.length(); i += 20) {
            x.feed(word(text, i), word(text, i + 4), word(text, i + 8), word(text, i + 12), word(text, i + 16));
        }
    }

    private static int word(String text, int from) {
        int number = 0;
        for (int i = from; i < from + 4; i++) {
            number = number << 8 | (i < text.length() ? text.charAt(i) & 255 : 0);
        }
        return number;
    }

    static int text(GuiltySleep x, int sort, String text) {
        tape(x, text);
        return x.text(sort);
    }

    static int fault(String text, int sort) {
        GuiltySleep x = new GuiltySleep();
        tape(x, text);
        return x.fault(sort);
    }

    static GuiltySleep town(String text) {
        GuiltySleep x = new GuiltySleep();
        if (text(x, 0, text) < 1) {
            wrong++;
            System.out.println("no town: " + text);
        }
        return x;
    }

    /** A TOWN with a LAW and a WATCH that hold (null: without). */
    static GuiltySleep with(String town, String law, String watch) {
        GuiltySleep x = town(town);
        if (law != null) {
            due("law " + law, text(x, 1, law), 0);
            due("law holds", x.law(0), true);
        }
        if (watch != null) {
            due("watch " + watch, text(x, 2, watch), 0);
            due("watch holds", x.watch(0), true);
        }
        return x;
    }

    /** So many NIGHTS. */
    static void nights(GuiltySleep x, int many) {
        for (int i = 0; i < many; i++) {
            x.night(i);
        }
    }

    /** Ends the test: exit code 1, if something was wrong. */
    static void end(String name) {
        System.out.println(name + ": " + asked + " asked, " + wrong + " wrong");
        if (wrong != 0 || asked == 0) {
            System.exit(1);
        }
    }
}
