import java.lang.management.ManagementFactory;
import java.util.NoSuchElementException;
import java.util.Random;

/** Calls with any arguments in any state: only what the document throws is thrown, and no call makes an object. */
public final class RoomTest {
    private static final int RUNS = 300;
    private static final int WARM = 50;
    private static final int CONSTRUCTOR_BYTES = 100_000;
    private static final int[] EDGES = {Integer.MIN_VALUE, Integer.MIN_VALUE + 1, -1000000, -10, -9, -2, -1, 0, 1, 2, 3,
        4, 5, 6, 7, 8, 9, 10, 11, 12, 13, 14, 30, 31, 59, 60, 240, 1000000, Integer.MAX_VALUE - 1, Integer.MAX_VALUE};

    private final Random r;
    private final int[] n = new int[5];

    private RoomTest(int seed) {
        r = new Random(seed * 0x9E3779B97F4A7C15L);
    }

    private void pick() {
        for (int i = 0; i < n.length; i++) {
            n[i] = r.nextInt(8) == 0 ? EDGES[r.nextInt(EDGES.length)] : r.nextInt(4);
        }
    }

    private long call(GuiltySleep x, int which, long seed) {
        boolean lit = (seed & 1) == 0;
        switch (which) {
            case 0: return x.feed(n[0], n[1], n[2], n[3], n[4]);
            case 1: return x.end(n[0]) ? 1 : 0;
            case 2: return x.fault(n[0]);
            case 3: return x.rule(n[0]);
            case 4: return x.law(n[0]) ? 1 : 0;
            case 5: return x.watch(n[0]) ? 1 : 0;
            case 6: return x.watched(n[0], n[1]);
            case 7: return x.crimes(n[0]) ? 1 : 0;
            case 8: return x.wakes(n[0], n[1]);
            case 9: return x.deed(n[0], n[1]);
            case 10: return x.coffee(n[0]) ? 1 : 0;
            case 11: return x.forge(n[0]) ? 1 : 0;
            case 12: return x.worry(n[0], n[1]);
            case 13: return x.night(seed);
            case 14: return x.judge(n[0]);
            case 15: return x.years(n[0], seed);
            case 16: return x.undo();
            case 17: return x.log(n[0], n[1]);
            case 18: return x.book(n[0], n[1]);
            case 19: return x.points(n[0]);
            case 20: return x.sleeps(n[0]);
            case 21: return x.awake(n[0], n[1]);
            case 22: return x.seem(n[0], n[1]);
            case 23: return x.tells(n[0], n[1]);
            case 24: return x.lamp(n[0], n[1], lit);
            case 25: return x.who(n[0], n[1]);
            case 26: return x.timetable(n[0], n[1]);
            case 27: return x.couple(n[0], n[1], n[2], n[3]);
            case 28: return x.rests(n[0], n[1]);
            case 29: return x.candle(n[0], n[1], n[2]);
            case 30: return x.likeliest(n[0], n[1]);
            case 31: return x.wronged(n[0]);
            case 32: return x.better();
            case 33: return x.most(n[0]);
            case 34: return x.people(n[0]);
            case 35: return x.cries(n[0]);
            case 36: return x.booked(n[0], n[1]);
            case 37: return x.meet(n[0], n[1]);
            case 38: return x.needs(n[0], n[1], n[2]);
            case 39: return x.line();
            case 40: return x.image();
            case 41: return x.back();
            case 42: return x.count(n[0]);
            default: return x.text(n[0]);
        }
    }

    private void person(GuiltySleep x) {
        pick();
        boolean person = n[0] >= 0 && n[0] < x.count(0);
        boolean what = n[1] >= 0 && n[1] < 8;
        boolean thrown = false;
        try {
            x.person(n[0], n[1]);
        } catch (NoSuchElementException e) {
            thrown = true;
        }
        Check.due("person(" + n[0] + ", " + n[1] + ") throws", thrown, !person || !what);
    }

    private GuiltySleep ready() {
        Texts texts = new Texts(r);
        GuiltySleep x = new GuiltySleep();
        if (r.nextInt(6) > 0) {
            Check.text(x, 0, texts.town(8, 9));
        }
        for (int i = r.nextInt(5); i > 0; i--) {
            Check.text(x, 1, texts.law());
            Check.text(x, 2, texts.watch(8));
        }
        x.law(0);
        x.watch(0);
        return x;
    }

    public static void main(String[] args) {
        com.sun.management.ThreadMXBean room = (com.sun.management.ThreadMXBean) ManagementFactory.getThreadMXBean();
        long id = Thread.currentThread().getId();
        room.getThreadAllocatedBytes(id);
        long empty = room.getThreadAllocatedBytes(id);
        empty = room.getThreadAllocatedBytes(id) - empty;
        long sum = 0;
        long[] bytes = new long[44];
        for (int run = 0; run < RUNS; run++) {
            RoomTest test = new RoomTest(run);
            GuiltySleep x = test.ready();
            for (int i = 0; i < 300; i++) {
                test.pick();
                int which = test.r.nextInt(44);
                long seed = test.r.nextLong();
                // a TEXT comes once in a while, so that most calls find a town
                if (which == 43 && test.r.nextInt(10) > 0) {
                    which = 13;
                }
                long before = room.getThreadAllocatedBytes(id);
                sum += test.call(x, which, seed);
                long made = room.getThreadAllocatedBytes(id) - before - empty;
                // the machine makes a few objects of its own when it first comes to a place
                if (run >= WARM) {
                    bytes[which] += made;
                }
                if (i % 20 == 0) {
                    test.person(x);
                }
            }
        }
        for (int which = 0; which < bytes.length; which++) {
            Check.due("call " + which + " makes objects: " + bytes[which], bytes[which] < 16 * (RUNS - WARM), true);
        }
        long before = room.getThreadAllocatedBytes(id);
        sum += new GuiltySleep().count(0);
        long made = room.getThreadAllocatedBytes(id) - before;
        System.out.println("a new object takes " + made + " bytes (" + sum + ")");
        Check.due("a new object takes less", made < CONSTRUCTOR_BYTES, true);
        Check.end("RoomTest");
    }
}
