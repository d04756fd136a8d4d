import java.util.NoSuchElementException;
import java.util.Random;

/** Random runs of 512 calls, as many as an object is good for, against the model, each answer compared. */
public final class ModelTest {
    private static final int RUNS = 600;
    private static final int CALLS = 512;
    /** How many of them are left to compare all at the end; a text takes 16 more at most. */
    private static final int AT_THE_END = 180;

    private final Random r;
    private final Texts texts;
    private final GuiltySleep x = new GuiltySleep();
    private final Model m = new Model();
    private final int mostPeople;
    private final int mostHours;
    private final String run;
    private int calls;

    private ModelTest(int seed) {
        r = new Random(seed * 0x9E3779B97F4A7C15L);
        texts = new Texts(r);
        run = "run " + seed + ": ";
        // all rows are tried for a TIMETABLE, so only one of the two may be large
        boolean wide = seed % 2 == 0;
        mostPeople = wide ? 8 : 5;
        mostHours = wide ? 4 : 9;
    }

    private void due(String what, long got, long want) {
        calls++;
        Check.due(run + what, got, want);
    }

    private void due(String what, boolean got, boolean want) {
        due(what, got ? 1L : 0L, want ? 1L : 0L);
    }

    private int near(int least, int most) {
        return r.nextInt(25) == 0 ? (r.nextBoolean() ? r.nextInt() : least - 1 + (most - least + 2) * r.nextInt(2))
            : least + r.nextInt(most - least + 1);
    }

    private int someone() {
        return near(0, Math.max(0, m.now.people.size() - 1));
    }

    private int someHour() {
        return near(0, Math.max(0, m.hours - 1));
    }

    private void text(int sort) {
        String text = sort == 0 ? texts.town(mostPeople, mostHours) : sort == 1 ? texts.law()
            : texts.watch(Math.max(1, m.now.people.size()));
        if (text.length() > 240) {
            return;
        }
        if (r.nextInt(8) == 0) {
            text = texts.spoilt(text);
        }
        int keep = r.nextInt(20) == 0 ? near(0, 20) : 0;
        due("end", x.end(keep), m.end(keep));
        for (int i = 0; i < text.length(); i += 20) {
            int[] w = new int[5];
            for (int j = i; j < Math.min(i + 20, text.length()); j++) {
                w[(j - i) / 4] |= text.charAt(j) << 8 * (3 - (j - i) % 4);
            }
            due("feed", x.feed(w[0], w[1], w[2], w[3], w[4]), m.feed(w[0], w[1], w[2], w[3], w[4]));
        }
        int ask = near(0, 2);
        due("fault(" + ask + ")", x.fault(ask), m.fault(ask));
        int put = r.nextInt(10) == 0 ? near(0, 2) : sort;
        if (put != 0 || m.now.people.isEmpty() || r.nextInt(3) == 0) {
            due("text(" + put + ") of " + text, x.text(put), m.text(put));
        }
    }

    private int askedPerson(int person, int what) {
        try {
            return x.person(person, what);
        } catch (NoSuchElementException e) {
            return Model.THROWN;
        }
    }

    private void act() {
        int a = someone();
        int b = near(-9, 9);
        long seed = r.nextInt(5) == 0 ? r.nextInt(10) : r.nextLong();
        switch (r.nextInt(12)) {
            case 0: due("deed", x.deed(a, b), m.deed(a, b)); break;
            case 1: due("coffee", x.coffee(a), m.coffee(a)); break;
            case 2: due("forge", x.forge(a), m.forge(a)); break;
            case 3: due("worry", x.worry(a, Math.abs(b)), m.worry(a, Math.abs(b))); break;
            case 4: case 5: case 6: due("night", x.night(seed), m.night(seed)); break;
            case 7: case 8: due("judge", x.judge(a), m.judge(a)); break;
            case 9: {
                int n = near(1, r.nextInt(3) == 0 ? 30 : 4);
                due("years", x.years(n, seed), m.years(n, seed));
                break;
            }
            case 10: due("undo", x.undo(), m.undo()); break;
            default:
                if (r.nextInt(3) == 0) {
                    due("image", x.image(), m.image());
                } else if (r.nextInt(3) == 0) {
                    due("back", x.back(), m.back());
                } else {
                    due("undo", x.undo(), m.undo());
                }
        }
    }

    private void hold() {
        int n = near(-1, 3);
        int v = near(0, 9);
        int hour = someHour();
        int a = someone();
        boolean lit = r.nextBoolean();
        switch (r.nextInt(4)) {
            case 0: due("law", x.law(n), m.law(n)); break;
            case 1: due("watch", x.watch(n), m.watch(n)); break;
            case 2: due("crimes", x.crimes(v), m.crimes(v)); break;
            default: due("lamp", x.lamp(a, hour, lit), m.lamp(a, hour, lit));
        }
    }

    private void look() {
        int a = someone();
        int what = near(0, 7);
        int small = near(0, 2);
        int i = near(0, 30);
        switch (r.nextInt(8)) {
            case 0: due("rule", x.rule(small), m.rule(small)); break;
            case 1: due("person " + a + " " + what, askedPerson(a, what), m.person(a, what)); break;
            case 2: due("log", x.log(i / 4, small), m.log(i / 4, small)); break;
            case 3: due("book", x.book(i, what), m.book(i, what)); break;
            case 4: due("watched", x.watched(small, i), m.watched(small, i)); break;
            case 5: due("points", x.points(a), m.points(a)); break;
            case 6: due("booked", x.booked(a, small), m.booked(a, small)); break;
            default: due("count", x.count(i / 2), m.count(i / 2));
        }
    }

    private void ask() {
        int a = someone();
        int b = someone();
        int hour = someHour();
        int n = near(0, m.hours);
        int small = near(0, 2);
        int bit = near(0, 1);
        int other = near(0, 1);
        int i = near(-1, 6);
        switch (r.nextInt(23)) {
            case 0: due("wakes", x.wakes(a, hour), m.wakes(a, hour)); break;
            case 1: due("sleeps", x.sleeps(a), m.sleeps(a)); break;
            case 2: due("awake", x.awake(a, n), m.awake(a, n)); break;
            case 3: due("seem", x.seem(a, small), m.seem(a, small)); break;
            case 4: due("tells", x.tells(a, bit), m.tells(a, bit)); break;
            case 5: case 6: case 7: due("who " + n + " " + small, x.who(n, small), m.who(n, small)); break;
            case 8: case 9:
                due("timetable " + small + " " + bit, x.timetable(small, bit), m.timetable(small, bit));
                break;
            case 10: case 11:
                due("couple", x.couple(a, bit, other, b & 1), m.couple(a, bit, other, b & 1));
                break;
            case 12: due("rests", x.rests(a, i), m.rests(a, i)); break;
            case 13: case 14: due("candle", x.candle(a, n, i), m.candle(a, n, i)); break;
            case 15: due("likeliest", x.likeliest(a, n), m.likeliest(a, n)); break;
            case 16: due("wronged", x.wronged(i), m.wronged(i)); break;
            case 17: due("better", x.better(), m.better()); break;
            case 18: due("most", x.most(bit), m.most(bit)); break;
            case 19: due("people", x.people(small), m.people(small)); break;
            case 20: due("cries", x.cries(hour), m.cries(hour)); break;
            case 21: due("meet", x.meet(a, b), m.meet(a, b)); break;
            default: due("needs", x.needs(a, hour, n), m.needs(a, hour, n));
        }
        if (r.nextInt(10) == 0) {
            due("line", x.line(), m.line());
        }
    }

    private void compareAll() {
        for (int what = 0; what <= 13; what++) {
            due("count(" + what + ")", x.count(what), m.count(what));
        }
        for (int a = 0; a < 8; a++) {
            for (int what = 0; what < 8; what++) {
                due("person " + a + " " + what, askedPerson(a, what), m.person(a, what));
            }
        }
        while (calls + 2 <= CALLS) {
            int i = r.nextInt(Math.max(1, m.now.book.size()));
            int j = r.nextInt(Math.max(1, m.now.log.size()));
            int what = r.nextInt(5);
            due("book " + i + " " + what, x.book(i, what), m.book(i, what));
            due("log " + j + " " + what, x.log(j, what), m.log(j, what));
        }
    }

    private void go() {
        for (int sort = 0; sort < 3; sort++) {
            text(sort);
            text(Math.max(1, sort));
        }
        while (calls < CALLS - AT_THE_END) {
            int pick = r.nextInt(20);
            if (pick == 0) {
                text(r.nextInt(12) == 0 ? 0 : 1 + r.nextInt(2));
            } else if (pick < 3) {
                hold();
            } else if (pick < 10) {
                act();
            } else if (pick < 13) {
                look();
            } else {
                ask();
            }
        }
        compareAll();
    }

    public static void main(String[] args) {
        for (int run = 0; run < RUNS; run++) {
            new ModelTest(run).go();
        }
        Check.end("ModelTest");
    }
}
