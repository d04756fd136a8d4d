/**
 * The edges of what can be asked (part 3 of the document's Terms, promises 23 to 43): one method a sentence that
 * names a bound, an empty or a full case, or which of several it is.
 */
public final class AskEdgesTest {
    private static final int NONE = -1;
    private static final int HIDDEN = -1000000;
    private static final int ALL = 1000000000;
    private static final String EIGHT = "p;p;p;p;p;p;p;p";
    private static final String EIGHT_APART = "pc0;pc1;pc2;pc3;pc4;pc5;pc6;pc7";

    public static void main(String[] args) {
        pointsOfNothingAndAll();
        sleepsFromNothingToAll();
        awakeInSoMany();
        awakeWithCoffee();
        seemLessThanGuilty();
        seemFewestAndLeast();
        seemNone();
        seemWatchedHoursAlone();
        seemNoneGoesOut();
        seemTiredAsNow();
        seemOfGaoledOnes();
        tellsEarliest();
        tellsFromNothingToTen();
        twelveLamps();
        lampsInAnyHour();
        whoByGuilt();
        whoLowest();
        sureFromNothingToAll();
        sureOfLargestProducts();
        askWhoMayBe();
        askAtFive();
        askLeast();
        askByGuiltNotByForgedLamps();
        timetableEnoughPeople();
        timetableLeast();
        timetableFree();
        timetableOfAllSizes();
        coupleByCase();
        coupleByWhoDenounces();
        coupleBounds();
        restsByIndex();
        restsByCase();
        candleCounts();
        candleAlwaysAndNever();
        candleByLamps();
        candleByIndex();
        likeliestOfSeveral();
        likeliestBounds();
        wrongedInTheBook();
        wrongedByEachLaw();
        betterOfSeveral();
        tiredest();
        deep();
        peopleBits();
        suspects();
        criesTogether();
        bookedUpToSixty();
        lacksUpTo99();
        lacksByHourZero();
        meetFromNothingToAll();
        meetCuts();
        needsLeast();
        needsBounds();
        lineOrder();
        Check.end("AskEdgesTest");
    }

    private static void due(String what, long got, long want) {
        Check.due(what, got, want);
    }

    private static GuiltySleep with(String town, String law, String watch) {
        return Check.with(town, law, watch);
    }

    private static String number(int v) {
        return v < 0 ? "0-" + -v : "" + v;
    }

    // ---- CASE, SLEEPS, AWAKE

    /** "CASE of a PERSON: POINTS of all its HOURS in THE BOOK together" */
    private static void pointsOfNothingAndAll() {
        GuiltySleep x = with("sh9;p;p", "v:9", "000000000");
        due("nothing", x.points(0), 0);
        due("the last", x.points(1), 0);
        due("behind it", x.points(2), HIDDEN);
        due("ahead", x.points(-1), HIDDEN);
        Check.nights(x, 8);
        due("sixty hours", x.points(0), 540);
        due("not the other's", x.points(1), 0);
        due("no town", new GuiltySleep().points(0), HIDDEN);
    }

    /** "SLEEPS of a PERSON: of 10 to the 9 parts those by which it is AWAKE in none of the HOURS" */
    private static void sleepsFromNothingToAll() {
        int[] nine = {ALL, 387420489, 134217728, 40353607, 10077696, 1953125, 262144, 19683, 512, 1, 0};
        for (int wakes = 0; wakes <= 10; wakes++) {
            GuiltySleep x = with("sh9;p", "y:" + wakes, null);
            due("nine hours of " + wakes, x.sleeps(0), nine[wakes]);
            x = with("sh1;p", "y:" + wakes, null);
            due("one hour of " + wakes, x.sleeps(0), (10 - wakes) * 100000000);
        }
        due("one hour is enough", with("sh9;p", "y:h=8?10", null).sleeps(0), 0);
        due("the hours of the town alone", with("sh8;p", "y:h=8?10", null).sleeps(0), ALL);
        GuiltySleep x = Check.town("sh1;p;p");
        due("the last", x.sleeps(1), 400000000);
        due("behind it", x.sleeps(2), NONE);
        due("ahead", x.sleeps(-1), NONE);
    }

    /** "AWAKE in n (0 .. 9) HOURS or more" */
    private static void awakeInSoMany() {
        GuiltySleep x = with("sh9;p", "y:1", null);
        due("0", x.awake(0, 0), ALL);
        due("1", x.awake(0, 1), ALL - 387420489);
        due("8", x.awake(0, 8), 1 + 9 * 9);
        due("9", x.awake(0, 9), 1);
        due("10", x.awake(0, 10), NONE);
        due("-1", x.awake(0, -1), NONE);
        for (int hours = 1; hours <= 9; hours++) {
            x = with("sh" + hours + ";p", "y:10", null);
            GuiltySleep y = with("sh" + hours + ";p", "y:0", null);
            for (int n = -1; n <= 10; n++) {
                boolean asked = n >= 0 && n <= 9;
                due("always, " + n + " of " + hours, x.awake(0, n), asked ? (n <= hours ? ALL : 0) : NONE);
                due("never, " + n + " of " + hours, y.awake(0, n), asked ? (n == 0 ? ALL : 0) : NONE);
            }
        }
        x = with("sh3;p", "y:h=0?10;y:h=1?5;y:0", null);
        int[] want = {ALL, ALL, 500000000, 0};
        for (int n = 0; n < 4; n++) {
            due("in " + n + " or more", x.awake(0, n), want[n]);
        }
        x = Check.town("p;p");
        due("the last", x.awake(1, 0), ALL);
        due("behind it", x.awake(2, 0), NONE);
        due("ahead", x.awake(-1, 0), NONE);
        // asked for others between, each is reckoned anew
        x = with("sh9;pc1;pc2", "y:c", null);
        x.awake(1, 3);
        due("9", x.awake(0, 9), 1);
        due("9", x.awake(1, 9), 512);
    }

    private static void awakeWithCoffee() {
        GuiltySleep x = with("sh2c9;p", "y:1", null);
        due("without", x.awake(0, 2), 10000000);
        x.coffee(0);
        due("with", x.awake(0, 2), ALL);
        due("with", x.sleeps(0), 0);
        due("with", x.awake(0, 3), 0);
    }

    // ---- SEEM, TELLS

    /** "so that its CASE would be less than GUILTY then" */
    private static void seemLessThanGuilty() {
        for (int k = 1; k <= 30; k++) {
            GuiltySleep x = with("sh1k" + k + ";p", "y:0;v:1-a", "0");
            if (k > 1) {
                Check.nights(x, k - 2);
                due("one below", x.seem(0, 0), 0);
                x.night(1);
            }
            due("as many as make guilty, but for a lamp", x.seem(0, 0), 1);
            x.night(1);
            due("guilty already", x.seem(0, 0), NONE);
        }
    }

    /** "the fewest HOURS (bits; of several the least)" */
    private static void seemFewestAndLeast() {
        for (int k = 1; k <= 10; k++) {
            // each of nine hours counts 1 without a lamp
            GuiltySleep x = with("sh9k" + k + ";p", "y:0;v:1-a", "000000000");
            due("of nine hours, " + k, x.seem(0, 0), (1 << 10 - k) - 1);
        }
        due("none is needed", with("sh9k30;p", null, "000000000").seem(0, 0), 0);
        due("the last alone", with("sh9k5;p", "v:h=8?5-5*a;v:0", "000000000").seem(0, 0), 256);
        due("one rather than two", with("sh3k3;p", "v:h=2?2-2*a;v:1-a", "000").seem(0, 0), 4);
        due("of two the least", with("sh3k3;p", "v:h>0?2-2*a;v:0", "000").seem(0, 0), 2);
        due("two of three the least", with("sh3k2;p", "v:1-a", "000").seem(0, 0), 3);
        due("lamps that do harm are left out", with("sh3k1;p", "v:h=0?a;v:1-a", "000").seem(0, 0), 6);
    }

    /** "NONE: there is none" */
    private static void seemNone() {
        due("no lamp helps", with("sh9k1;p", "v:1", "000000000").seem(0, 0), NONE);
        due("not even all", with("sh3k1;p", "v:2-a", "000").seem(0, 0), NONE);
        due("all do", with("sh3k4;p", "v:2-a", "000").seem(0, 0), 7);
        GuiltySleep x = with("p;p", null, "0");
        due("the last", x.seem(1, 0), 0);
        due("behind it", x.seem(2, 0), NONE);
        due("ahead", x.seem(-1, 0), NONE);
        due("no second watch", x.seem(0, 1), NONE);
        due("NONE is no watch", x.seem(0, NONE), NONE);
        x.watch(NONE);
        due("it need not hold", x.seem(0, 0), 0);
    }

    /** By a WATCH: HOURS in which it is watched, and which there are. */
    private static void seemWatchedHoursAlone() {
        due("hours behind the last", with("sh2k1;p", "v:1-a", "000000000").seem(0, 0), 3);
        due("hours of others", with("sh4k1;p;p", "v:1-a", "1010").seem(0, 0), 10);
        due("hours of nobody", with("sh4k1;p;p", "v:1-a", "9909").seem(0, 0), 4);
        due("hours not told", with("sh4k1;p;p", "v:1-a", "0").seem(0, 0), 1);
        due("one that is never watched", with("sh4k1;p;p", "v:1-a", "0000").seem(1, 0), 0);
        GuiltySleep x = with("sh2k1;p", "v:1-a", "00");
        Check.text(x, 2, "90");
        due("by another watch", x.seem(0, 1), 2);
        due("the last hour of nine", with("sh9k1;p", "v:1-a", "999999990").seem(0, 0), 256);
        // no HOUR behind the last, whatever was asked ahead
        x = with("sh3k1;pc9;p;p;pc1", "y:0;v:c=9?1;v:0-9", "399");
        Check.text(x, 2, "000");
        x.night(1);
        due("3 is the last in line", x.line(), 123);
        due("there is none", x.seem(0, 1), NONE);
    }

    /** "(THE BOOK with these HOURS; .. none goes out of it)" */
    private static void seemNoneGoesOut() {
        // nine HOURS of -9 at first, then 51 of 1: sixty
        GuiltySleep x = with("sh9k1;pt9", "y:0;v:t=9?0-9;v:1", "000000000");
        Check.text(x, 2, "000000");
        Check.nights(x, 6);
        x.watch(1);
        x.night(1);
        due("sixty", x.count(11), 60);
        due("case", x.points(0), -30);
        due("with nine more", x.seem(0, 0), 0);
        x.watch(0);
        x.night(1);
        due("but they go out", x.points(0), 60);
        due("still sixty", x.count(11), 60);
    }

    /** "TIRED as now" */
    private static void seemTiredAsNow() {
        GuiltySleep x = with("sh2k2;pt5", "y:0;v:t=5?1-a;v:0", "00");
        due("tired as told", x.seem(0, 0), 1);
        x.night(1);
        due("in the book by tired as put down", x.points(0), 2);
        due("guilty already", x.seem(0, 0), NONE);
        x.judge(0);
        due("not tired now", x.seem(0, 0), 0);
        x.undo();
        x.undo();
        due("tired again", x.seem(0, 0), 1);
    }

    /** "(as if it was not GAOLED)" */
    private static void seemOfGaoledOnes() {
        GuiltySleep x = with("sh3k3;p", "y:0;v:1-a", "000");
        due("free", x.seem(0, 0), 1);
        x.night(1);
        due("gaoled", x.judge(0), 1);
        due("as if it was not", x.seem(0, 0), 1);
    }

    /** "TELLS: the HOUR by which WAKES .. are most unlike (of several the earliest)" */
    private static void tellsEarliest() {
        GuiltySleep x = Check.town("sh9;pg3;pg0");
        due("all alike", x.tells(0, 0), 0);
        due("by guilt", x.tells(0, 1), 3);
        due("no guilt", x.tells(1, 0), 0);
        due("no guilt", x.tells(1, 1), 0);
        for (int hour = 0; hour < 9; hour++) {
            x = with("sh9;pg3", "y:h=" + hour + "?g;y:5", null);
            due("the one hour", x.tells(0, 0), hour);
            due("by", x.tells(0, 1), 3);
            x = with("sh9;pg3", "y:h<" + hour + "?5;y:g", null);
            due("the earliest", x.tells(0, 0), hour);
        }
        x = with("sh8;pg3", "y:h=8?g;y:5", null);
        due("not behind the last hour", x.tells(0, 1), 0);
        due("what 2", x.tells(0, 2), NONE);
        due("what -1", x.tells(0, -1), NONE);
        due("behind the last", x.tells(1, 0), NONE);
        due("ahead", x.tells(-1, 0), NONE);
    }

    private static void tellsFromNothingToTen() {
        due("more by guilt", with("sh1;pg1", "y:g*10", null).tells(0, 1), 10);
        due("less by guilt", with("sh1;pg1", "y:10-g*10", null).tells(0, 1), 10);
        due("held", with("sh1;pg9", "y:g*g", null).tells(0, 1), 10);
        due("both held", with("sh1;pg9", "y:g+10", null).tells(0, 1), 0);
        due("both held", with("sh1;pg9", "y:0-g", null).tells(0, 1), 0);
        GuiltySleep x = with("sh2c1;pg2", "y:h=0?10-g;y:h=1?g", null);
        due("without coffee", x.tells(0, 1), 2);
        x.coffee(0);
        due("the earlier is held by coffee", x.tells(0, 0), 1);
        due("by", x.tells(0, 1), 2);
    }

    // ---- LAMPS

    /** "LAMPS told (12 at most)"; "how many there are. NONE: .. there are 12" */
    private static void twelveLamps() {
        GuiltySleep x = Check.town("sh2;p;p");
        due("none at first", x.count(10), 0);
        for (int i = 1; i <= 12; i++) {
            due("how many", x.lamp(i % 2, i / 2 % 2, i % 3 == 0), i);
            due("there are", x.count(10), i);
        }
        int who = x.who(5, 1);
        due("a thirteenth", x.lamp(0, 0, true), NONE);
        due("a thirteenth", x.lamp(1, 1, false), NONE);
        due("twelve", x.count(10), 12);
        due("as it was", x.who(5, 1), who);
        Check.text(x, 0, "sh2;p;p");
        due("another town", x.count(10), 0);
        due("the first again", x.lamp(0, 0, true), 1);
    }

    private static void lampsInAnyHour() {
        GuiltySleep x = Check.town("sh9;p;p");
        due("first hour", x.lamp(0, 0, true), 1);
        due("last hour", x.lamp(0, 8, false), 2);
        due("behind it", x.lamp(0, 9, false), NONE);
        due("ahead", x.lamp(0, -1, false), NONE);
        due("last person", x.lamp(1, 0, true), 3);
        due("behind it", x.lamp(2, 0, true), NONE);
        due("ahead", x.lamp(-1, 0, true), NONE);
        due("the same again", x.lamp(1, 0, true), 4);
        due("against it", x.lamp(1, 0, false), 5);
        due("five", x.count(10), 5);
    }

    /** "HELD of a PERSON with a GUILT x (1 .. 9)" */
    private static void whoByGuilt() {
        GuiltySleep x = with("sh1;pg7;p", "y:9-g", null);
        x.lamp(0, 0, false);
        for (int guilt = -1; guilt <= 11; guilt++) {
            boolean asked = guilt >= 1 && guilt <= 9;
            // HELD of 0: 1 + x, of 1: 1
            due("who by " + guilt, x.who(guilt, 0), asked ? 0 : NONE);
            due("sure by " + guilt, x.who(guilt, 1), asked ? (1 + guilt) * 1000 / (2 + guilt) : NONE);
            due("ask by " + guilt, x.who(guilt, 2), asked ? 0 : NONE);
        }
        due("what 3", x.who(1, 3), NONE);
        due("what -1", x.who(1, -1), NONE);
    }

    /** "WHO for x: the PERSON with the most HELD (of several the lowest)" */
    private static void whoLowest() {
        due("no lamps: all alike", Check.town(EIGHT).who(5, 0), 0);
        for (int person = 0; person < 8; person++) {
            GuiltySleep x = with("sh1;" + EIGHT, "y:9-g", null);
            x.lamp(person, 0, false);
            due("the one", x.who(5, 0), person);
            x.lamp(7, 0, false);
            due("of two the lowest", x.who(5, 0), person);
        }
        GuiltySleep x = with("sh1;" + EIGHT, "y:9-g", null);
        x.lamp(0, 0, true);
        due("not the first", x.who(5, 0), 1);
        x.lamp(1, 0, true);
        due("nor the second", x.who(5, 0), 2);
        x = with("sh1;p;p", "y:0", null);
        x.lamp(0, 0, true);
        due("nothing for all: the lowest", x.who(5, 0), 0);
    }

    /** "SURE for x: its HELD by that of all, times 1,000, cut (nothing: 0)" */
    private static void sureFromNothingToAll() {
        StringBuilder people = new StringBuilder("p");
        for (int many = 1; many <= 8; many++) {
            due("of " + many + " alike", Check.town(people.toString()).who(1, 1), 1000 / many);
            people.append(";p");
        }
        GuiltySleep x = with("sh1;p;p", "y:0", null);
        x.lamp(1, 0, true);
        due("nothing", x.who(1, 1), 0);
        x = with("sh1;p;p;p", "y:g=0?0;y:9", null);
        x.lamp(1, 0, true);
        due("it alone", x.who(1, 1), 1000);
        due("it alone", x.who(1, 0), 1);
    }

    private static void sureOfLargestProducts() {
        GuiltySleep x = with("sh1;" + EIGHT, "y:10", null);
        GuiltySleep y = with("sh1;p;p", "y:10-g", null);
        for (int i = 0; i < 12; i++) {
            x.lamp(0, 0, true);
            y.lamp(0, 0, true);
        }
        due("eight of 10 to the 12", x.who(9, 1), 125);
        due("1 against 10 to the 12", y.who(9, 1), 999);
        due("1 against 10 to the 12", y.who(9, 0), 1);
        due("9 to the 12 against 10 to the 12", y.who(1, 1), (int) (1000.0 / (1 + Math.pow(0.9, 12))));
    }

    /** "ASK .. (of those who may be it: HELD above 0)"; "NONE: nobody may be it" */
    private static void askWhoMayBe() {
        GuiltySleep x = with("sh1;p;p", "y:0", null);
        due("all may be", x.who(1, 2), 0);
        x.lamp(1, 0, true);
        due("nobody may be", x.who(1, 2), NONE);
        x = with("sh1;p;p", "y:g=0?0;y:9", null);
        x.lamp(1, 0, true);
        due("one may be: all are alike by number", x.who(1, 2), 0);
        x = with("sh1;p;p", "y:g=0?0;y:9", null);
        x.lamp(0, 0, true);
        due("the first alone may be", x.who(1, 2), 0);
        due("the first alone may be", x.who(1, 1), 1000);
        // of three, 0 can't be: asking for 1 splits 1 and 2 evenly, asking for 0 does not
        x = with("sh1;p;p;p", "y:g=0?9;y:0", null);
        due("of three", x.who(1, 2), 0);
        x.lamp(0, 0, true);
        due("of two", x.who(1, 2), 10);
    }

    /** "those by whose GUILT x WAKES is 5 or more and the others" */
    private static void askAtFive() {
        for (int wakes = 3; wakes <= 6; wakes++) {
            // by its own GUILT 1 PERSON 1 in HOUR 1 wakes so much, in all else they wake 4
            GuiltySleep x = with("sh2;pc1;pc2;pc3", "y:c=2&h=1&g=1?" + wakes + ";y:4", null);
            due("own " + wakes, x.who(1, 2), wakes >= 5 ? 11 : 0);
            // by all others' GUILT
            x = with("sh2;pc1;pc2;pc3", "y:c=2&h=1&g=0?" + wakes + ";y:5", null);
            due("others' " + wakes, x.who(1, 2), wakes < 5 ? 11 : 0);
        }
    }

    /** "are least apart in number (of several the least)" */
    private static void askLeast() {
        due("all alike", Check.town("sh9;" + EIGHT).who(9, 2), 0);
        GuiltySleep x = with("sh9;" + EIGHT_APART, "y:c=7&h=8?9*g;y:0", null);
        due("the last of all", x.who(1, 2), 78);
        x = with("sh9;" + EIGHT_APART, "y:c=7&h=8|c=3&h=4?9*g;y:0", null);
        due("of two the least", x.who(1, 2), 34);
        x = with("sh9;" + EIGHT_APART, "y:c=3&h>4?9*g;y:0", null);
        due("of two hours the earlier", x.who(1, 2), 35);
        x = with("sh8;" + EIGHT_APART, "y:h=8?9*g;y:0", null);
        due("no hour behind the last", x.who(1, 2), 0);
    }

    /** "(COFFEE as drunk; no LAMP FORGED)"; GUILT that they have does not matter */
    private static void askByGuiltNotByForgedLamps() {
        GuiltySleep x = with("sh1c9;pg9;pg9", "y:5-g", null);
        x.lamp(0, 0, true);
        // 5 - 1 and 5
        due("guilt as it is does not matter", x.who(1, 1), 5000 / 9);
        x.forge(0);
        due("a forged lamp does not matter", x.who(1, 1), 5000 / 9);
        x.coffee(0);
        due("coffee does", x.who(1, 1), 500);
        due("coffee does", x.who(5, 1), 10000 / 19);
    }

    // ---- TIMETABLE

    private static String people(int many) {
        return EIGHT.substring(0, 2 * many - 1);
    }

    /** "TIMETABLE for n (1, 2): .. each watched in no more than n"; "NONE: there is none .. out of bounds" */
    private static void timetableEnoughPeople() {
        for (int hours = 1; hours <= 9; hours++) {
            for (int many = 1; many <= 8; many++) {
                GuiltySleep x = Check.town("sh" + hours + ";" + people(many));
                int once = NONE;
                int twice = NONE;
                if (many >= hours) {
                    once = 0;
                    for (int i = 0; i < hours; i++) {
                        once = once * 10 + i;
                    }
                }
                if (2 * many >= hours) {
                    twice = 0;
                    for (int i = 0; i < hours; i++) {
                        twice = twice * 10 + i / 2;
                    }
                }
                due(many + " once in " + hours, x.timetable(1, 0), once);
                due(many + " once in " + hours, x.timetable(1, 1), once == NONE ? NONE : 4 * hours);
                due(many + " twice in " + hours, x.timetable(2, 0), twice);
                due(many + " twice in " + hours, x.timetable(2, 1), twice == NONE ? NONE : 4 * hours);
            }
        }
        GuiltySleep x = Check.town("sh1;p");
        for (int n : new int[] {-1, 0, 3, 4}) {
            due("n " + n, x.timetable(n, 0), NONE);
        }
        due("what -1", x.timetable(1, -1), NONE);
        due("what 2", x.timetable(1, 2), NONE);
    }

    /** "the one by which 10 less WAKES together is most (of several the least); that" */
    private static void timetableLeast() {
        due("all wake", with("sh3;p;p;p", "y:10", null).timetable(1, 1), 0);
        due("all wake", with("sh3;p;p;p", "y:10", null).timetable(1, 0), 12);
        due("none wakes", with("sh9;" + EIGHT, "y:0", null).timetable(2, 1), 90);
        due("turned round", with("sh8;" + EIGHT_APART, "y:c+h=7?0;y:9", null).timetable(1, 0), 76543210);
        due("each one twice", with("sh9;" + EIGHT_APART, "y:c=7-h/2?0;y:9", null).timetable(2, 0), 776655443);
        due("that", with("sh9;" + EIGHT_APART, "y:c=7-h/2?0;y:9", null).timetable(2, 1), 90);
        // the best of one HOUR can't be had: it is worth more in another
        GuiltySleep x = with("sh2;pc1;pc2", "y:c=1&h=0?1;y:c=1?0;y:h=0?2;y:9", null);
        due("1 first", x.timetable(1, 0), 10);
        due("sum", x.timetable(1, 1), 8 + 10);
        due("twice", x.timetable(2, 0), 0);
        due("sum", x.timetable(2, 1), 9 + 10);
    }

    /** "rows of PERSONS not GAOLED" */
    private static void timetableFree() {
        GuiltySleep x = with("sh2k1;pc0w0;p;p", "y:5;v:1", "01");
        due("all", x.timetable(1, 0), 1);
        x.night(1);
        x.judge(0);
        due("without 0", x.timetable(1, 0), 12);
        due("twice", x.timetable(2, 0), 11);
        x.judge(1);
        due("2 alone", x.timetable(1, 0), NONE);
        due("2 twice", x.timetable(2, 0), 22);
        due("sum", x.timetable(2, 1), 10);
        Check.text(x, 2, "2");
        x.watch(1);
        x.night(1);
        x.judge(2);
        due("nobody is free", x.people(0), 0);
        due("none", x.timetable(1, 0), NONE);
        due("none", x.timetable(2, 0), NONE);
        due("none", x.timetable(2, 1), NONE);
    }

    /** One asked behind a larger one is reckoned anew. */
    private static void timetableOfAllSizes() {
        GuiltySleep x = Check.town("sh9;" + EIGHT);
        due("large", x.timetable(2, 0), 1122334);
        Check.text(x, 0, "sh1;p");
        due("small", x.timetable(1, 0), 0);
        due("small", x.timetable(2, 1), 4);
        Check.text(x, 0, "sh3;p");
        due("none", x.timetable(2, 0), NONE);
        Check.text(x, 0, "sh2;p");
        due("twice", x.timetable(2, 0), 0);
        due("not once", x.timetable(1, 0), NONE);
    }

    // ---- COUPLES

    /** "less its own CASE (0 at least) by 2, cut" */
    private static void coupleByCase() {
        for (int v = -9; v <= 9; v++) {
            GuiltySleep x = with("sh1;pm1;pm0", "v:" + number(v), "0");
            x.night(1);
            int less = Math.max(0, v) / 2;
            due("the first with " + v, x.couple(0, 0, 0, 0), 1 - less);
            due("the second has its own", x.couple(0, 0, 0, 1), 1);
            due("asked of the second", x.couple(1, 0, 0, 1), 1 - less);
            due("asked of the second", x.couple(1, 0, 0, 0), 1);
        }
        GuiltySleep x = with("sh9;pm1;pm0", "v:9", "000000000");
        Check.nights(x, 7);
        due("540", x.couple(0, 1, 1, 0), -274);
    }

    /** "2 more, if it denounces alone, 4 less, if it is denounced, 1 more, if neither does" */
    private static void coupleByWhoDenounces() {
        GuiltySleep x = Check.town("p;pm3;p;pm1");
        int[][] want = {{1, 1}, {-4, 2}, {2, -4}, {-4, -4}};
        for (int pair = 0; pair < 4; pair++) {
            for (int what = 0; what < 2; what++) {
                due("pair " + pair, x.couple(1, pair / 2, pair % 2, what), want[pair][what]);
                due("pair " + pair, x.couple(3, pair / 2, pair % 2, what), want[pair][what]);
            }
        }
    }

    /** "HIDDEN: no such PERSON, not MARRIED, out of bounds" */
    private static void coupleBounds() {
        GuiltySleep x = Check.town("pm1;pm0;p");
        for (int v = -2; v <= 3; v++) {
            boolean bit = v == 0 || v == 1;
            due("x " + v, x.couple(0, v, 0, 0) == HIDDEN ? 0 : 1, bit ? 1 : 0);
            due("y " + v, x.couple(0, 0, v, 0) == HIDDEN ? 0 : 1, bit ? 1 : 0);
            due("what " + v, x.couple(0, 0, 0, v) == HIDDEN ? 0 : 1, bit ? 1 : 0);
        }
        due("not married", x.couple(2, 0, 0, 0), HIDDEN);
        due("behind the last", x.couple(3, 0, 0, 0), HIDDEN);
        due("ahead", x.couple(-1, 0, 0, 0), HIDDEN);
    }

    /** "RESTS: how many (i NONE), the i-th. NONE: no such one, as for COUPLE." */
    private static void restsByIndex() {
        GuiltySleep x = Check.town("pm1;pm0;p");
        int[] want = {NONE, 3, 1, 10, 11, NONE, NONE};
        for (int i = -2; i <= 4; i++) {
            due("rests " + i, x.rests(0, i), want[i + 2]);
            due("rests " + i + " of the other", x.rests(1, i), want[i + 2]);
            due("not married " + i, x.rests(2, i), NONE);
            due("behind the last " + i, x.rests(3, i), NONE);
            due("ahead " + i, x.rests(-1, i), NONE);
        }
    }

    /** "by which neither has more by the other of its own", whatever their CASES are */
    private static void restsByCase() {
        GuiltySleep x = with("sh9;pm1;pm0", "v:9", "000000001");
        Check.nights(x, 7);
        due("how many", x.rests(0, NONE), 3);
        due("first", x.rests(0, 0), 1);
        due("last", x.rests(1, 2), 11);
    }

    // ---- CANDLES

    private static int choose(int n, int k) {
        int many = 0;
        for (int set = 0; set < 1 << n; set++) {
            many += Integer.bitCount(set) == k ? 1 : 0;
        }
        return many;
    }

    /** "CANDLE of a PERSON that burnt n (0 .. 9) HOURS: sets of n HOURS" */
    private static void candleCounts() {
        for (int hours = 1; hours <= 9; hours++) {
            GuiltySleep x = Check.town("sh" + hours + ";p");
            for (int n = -1; n <= 10; n++) {
                int want = n < 0 || n > 9 ? NONE : choose(hours, n);
                due(n + " of " + hours, x.candle(0, n, NONE), want);
                if (want > 0) {
                    due("the first", x.candle(0, n, 0), (1 << n) - 1);
                    due("the last", x.candle(0, n, want - 1), (1 << n) - 1 << hours - n);
                    due("behind it", x.candle(0, n, want), NONE);
                } else {
                    due("none", x.candle(0, n, 0), NONE);
                }
            }
        }
    }

    /** "(AWAKE in these: WAKES above 0; not in the others: below 10)" */
    private static void candleAlwaysAndNever() {
        for (int wakes = 0; wakes <= 10; wakes++) {
            GuiltySleep x = with("sh3;p", "y:" + wakes, null);
            for (int n = 0; n <= 3; n++) {
                int want = wakes == 0 ? (n == 0 ? 1 : 0) : wakes == 10 ? (n == 3 ? 1 : 0) : choose(3, n);
                due(n + " by wakes " + wakes, x.candle(0, n, NONE), want);
                due(n + " by wakes " + wakes, x.likeliest(0, n), want == 0 ? NONE : (1 << n) - 1);
            }
        }
        GuiltySleep x = with("sh3;p", "y:h=0?0;y:h=2?10;y:1", null);
        due("the last alone", x.candle(0, 1, NONE), 1);
        due("the last alone", x.candle(0, 1, 0), 4);
        due("two", x.candle(0, 2, 0), 6);
        due("none", x.candle(0, 0, NONE), 0);
        due("all", x.candle(0, 3, NONE), 0);
        x = with("sh1c9;p", "y:1", null);
        due("none by 1", x.candle(0, 0, NONE), 1);
        x.coffee(0);
        due("none by 10", x.candle(0, 0, NONE), 0);
    }

    /** "so that all LAMPS told of it are so" */
    private static void candleByLamps() {
        GuiltySleep x = with("sh3;p;p", "y:h=0?0;y:5", null);
        x.lamp(1, 1, true);
        due("of another one", x.candle(0, 0, NONE), 1);
        due("of it", x.candle(1, 0, NONE), 0);
        due("of it", x.candle(1, 1, 0), 2);
        x.lamp(1, 1, true);
        due("told twice", x.candle(1, 1, 0), 2);
        x.lamp(1, 2, false);
        due("dark", x.candle(1, 2, NONE), 0);
        due("dark", x.candle(1, 1, NONE), 1);
        x.lamp(1, 2, true);
        due("against one another", x.candle(1, 1, NONE), 0);
        due("against one another", x.candle(1, 2, NONE), 0);
        due("against one another", x.likeliest(1, 1), NONE);
        x.lamp(0, 0, true);
        due("lit where it never wakes", x.candle(0, 1, NONE), 0);
        x = with("sh3;p;p", "y:h=0?10;y:5", null);
        x.lamp(0, 0, false);
        due("dark where it always wakes", x.candle(0, 1, NONE), 0);
        x = with("sh9;p", "y:5", null);
        for (int hour = 0; hour < 9; hour++) {
            x.lamp(0, hour, hour % 2 == 0);
        }
        due("all hours told", x.candle(0, 5, NONE), 1);
        due("all hours told", x.candle(0, 5, 0), 341);
        due("all hours told", x.candle(0, 4, NONE), 0);
        // asked of one, then of another one
        x = with("sh3;pc0;pc1;pc2", "y:c=1?10;y:c=2?0;y:5", null);
        due("of 0", x.candle(0, 1, NONE), 3);
        due("1 always wakes", x.candle(1, 3, NONE), 1);
        due("of 0 again", x.candle(0, 1, NONE), 3);
        due("2 never wakes", x.candle(2, 0, NONE), 1);
        due("of 0 again", x.candle(0, 1, NONE), 3);
        due("of 0 again", x.likeliest(0, 3), 7);
    }

    /** "how many (i NONE), the i-th. NONE: no such one, no such PERSON, out of bounds." */
    private static void candleByIndex() {
        GuiltySleep x = Check.town("sh4;p;p");
        int[] want = {NONE, 6, 3, 5, 6, 9, 10, 12, NONE};
        for (int i = -2; i <= 6; i++) {
            due("candle " + i, x.candle(1, 2, i), want[i + 2]);
        }
        due("behind the last", x.candle(2, 2, NONE), NONE);
        due("ahead", x.candle(-1, 2, NONE), NONE);
    }

    /** "LIKELIEST of it: the one by which WAKES (10 less it) of all HOURS multiplied is most (of several the least)" */
    private static void likeliestOfSeveral() {
        GuiltySleep x = Check.town("sh9;p");
        for (int n = 0; n <= 9; n++) {
            due("all alike", x.likeliest(0, n), (1 << n) - 1);
        }
        x = with("sh9;p", "y:h=8?6;y:5", null);
        for (int n = 1; n <= 9; n++) {
            due("the last hour first", x.likeliest(0, n), 256 | (1 << n - 1) - 1);
        }
        x = with("sh3;p", "y:h=0?1;y:h=1?9;y:9", null);
        due("none", x.likeliest(0, 0), 0);
        due("of two the least", x.likeliest(0, 1), 2);
        due("two", x.likeliest(0, 2), 6);
        due("three", x.likeliest(0, 3), 7);
        x = with("sh9;p", "y:9", null);
        due("9 to the 9", x.likeliest(0, 9), 511);
        x = with("sh2;p", "y:h=0?10;y:1", null);
        due("what must be", x.likeliest(0, 1), 1);
        due("none can be", x.likeliest(0, 0), NONE);
    }

    private static void likeliestBounds() {
        GuiltySleep x = Check.town("sh3;p;p");
        int[] want = {NONE, 0, 1, 3, 7, NONE, NONE, NONE, NONE, NONE, NONE, NONE};
        for (int n = -1; n <= 10; n++) {
            due("likeliest " + n, x.likeliest(1, n), want[n + 1]);
        }
        due("behind the last", x.likeliest(2, 1), NONE);
        due("ahead", x.likeliest(-1, 1), NONE);
    }

    // ---- LAWS compared

    /** "WRONGED by a LAW (NONE: without): of those in THE BOOK how many would be WRONG" */
    private static void wrongedInTheBook() {
        GuiltySleep x = with("sh8k1;" + EIGHT, "y:0;v:1", "01234567");
        due("nobody is in the book", x.wronged(NONE), 0);
        due("nobody is in the book", x.wronged(0), 0);
        x.night(1);
        due("all", x.wronged(0), 8);
        due("all", x.wronged(NONE), 8);
        for (int i = 0; i < 8; i++) {
            x.deed(i, 1);
            due("one less", x.wronged(0), 7 - i);
        }
        for (int i = 0; i < 8; i++) {
            x.deed(i, -1);
            due("one more", x.wronged(0), i + 1);
        }
        for (int i = 0; i < 8; i++) {
            x.judge(i);
            due("out of the book", x.wronged(0), 7 - i);
        }
        for (int i = 0; i < 8; i++) {
            x.deed(i, 9);
        }
        due("guilty ones that are not in the book", x.wronged(0), 0);
        due("guilty ones that are not in the book", x.wronged(NONE), 0);
        due("no second law", x.wronged(1), NONE);
        due("-2", x.wronged(-2), NONE);
        due("no town", new GuiltySleep().wronged(NONE), NONE);
    }

    private static void wrongedByEachLaw() {
        GuiltySleep x = with("sh1k5;pg1", "y:0;v:4", "0");
        String[] laws = {"v:5", "v:6", "v:0"};
        for (String law : laws) {
            Check.text(x, 1, law);
        }
        x.night(1);
        int[] want = {NONE, 1, 1, 0, 0, 1, NONE};
        for (int law = -2; law <= 4; law++) {
            due("by " + law, x.wronged(law), want[law + 2]);
        }
        x.law(2);
        due("by 0, whichever holds", x.wronged(0), 1);
        due("without, whichever holds", x.wronged(NONE), 1);
    }

    /** "BETTER: the LAW by which fewest are (of several the lowest)"; "NONE: no LAW, no TOWN" */
    private static void betterOfSeveral() {
        due("no law, no town", new GuiltySleep().better(), NONE);
        due("no law", Check.town("p").better(), NONE);
        GuiltySleep y = new GuiltySleep();
        Check.text(y, 1, "v:1");
        due("no town", y.better(), NONE);
        for (int good = 0; good < 4; good++) {
            GuiltySleep x = with("sh1k5;pg1;p", null, "0");
            for (int law = 0; law < 4; law++) {
                Check.text(x, 1, law == good ? "v:9" : "v:1");
            }
            due("nobody in the book: the lowest", x.better(), 0);
            x.night(1);
            due("the one", x.better(), good);
        }
        GuiltySleep x = with("sh1k5;pg1;p", null, "0");
        for (String law : new String[] {"v:1", "v:5", "v:9", "v:2"}) {
            Check.text(x, 1, law);
        }
        x.night(1);
        due("of two the lowest", x.better(), 1);
        // without a LAW nobody would be wronged, but that is no LAW
        x = with("sh1k1;pc0w0g1", "v:0", "0");
        x.night(1);
        due("one law", x.better(), 0);
    }

    // ---- who is what

    /** "TIREDEST (of several the lowest)" */
    private static void tiredest() {
        due("no town", new GuiltySleep().most(0), NONE);
        due("one", Check.town("p").most(0), 0);
        due("all alike", Check.town(EIGHT).most(0), 0);
        for (int person = 0; person < 8; person++) {
            StringBuilder text = new StringBuilder();
            for (int i = 0; i < 8; i++) {
                text.append(i == 0 ? "p" : ";p").append("t").append(i < person ? 8 : 9);
            }
            due("the lowest of those with 9", Check.town(text.toString()).most(0), person);
        }
        due("what 2", Check.town("p").most(2), NONE);
        due("what -1", Check.town("p").most(-1), NONE);
    }

    /** "DEEP: the PERSON that SLEEPS most (of several the lowest)" */
    private static void deep() {
        due("no town", new GuiltySleep().most(1), NONE);
        due("all alike", Check.town(EIGHT).most(1), 0);
        due("nobody ever sleeps", with(EIGHT, "y:10", null).most(1), 0);
        due("all always sleep", with(EIGHT, "y:0", null).most(1), 0);
        for (int person = 0; person < 8; person++) {
            due("the lowest of those that sleep", with("sh9;" + EIGHT_APART, "y:c<" + person + "?9;y:8", null).most(1), person);
        }
        // one part of 10 to the 9 against none
        due("hardly", with("sh9;pc1;pc2", "y:c=1?10;y:9", null).most(1), 1);
    }

    /** "FREE: PERSONS (bits) not GAOLED. INNOCENT: PERSONS (bits) without GUILT." */
    private static void peopleBits() {
        for (int what = 0; what < 3; what++) {
            due("no town", new GuiltySleep().people(what), NONE);
        }
        GuiltySleep x = with("sh8k1;" + EIGHT, "v:1", "01234567");
        due("all free", x.people(0), 255);
        due("all innocent", x.people(1), 255);
        due("nobody suspect", x.people(2), 0);
        due("what 3", x.people(3), NONE);
        due("what -1", x.people(-1), NONE);
        x.night(1);
        int free = 255;
        int innocent = 255;
        for (int i = 7; i >= 0; i--) {
            due("gaoled", x.judge(i), 1);
            x.deed(i, i % 9 + 1);
            free -= 1 << i;
            innocent -= 1 << i;
            due("free", x.people(0), free);
            due("innocent", x.people(1), innocent);
            due("suspects", x.people(2), free);
        }
        x.deed(3, -4);
        due("innocent again", x.people(1), 8);
        due("one", Check.town("p").people(0), 1);
    }

    /** "SUSPECTS: PERSONS (bits) that would be GUILTY now" */
    private static void suspects() {
        GuiltySleep x = with("sh8k5;" + EIGHT_APART, "v:c", "01234567");
        x.night(1);
        due("5 or more", x.people(2), 32 + 64 + 128);
        x.law(NONE);
        due("by no law", x.people(2), 0);
        x.law(0);
        x.judge(7);
        due("one is gaoled", x.people(2), 32 + 64);
        due("nobody in an empty book", Check.town("sk1;p").people(2), 0);
    }

    /** "CRIES of an HOUR: WAKES of all PERSONS together" */
    private static void criesTogether() {
        due("none", with("sh9;" + EIGHT, "y:0", null).cries(0), 0);
        due("all", with("sh9;" + EIGHT, "y:10", null).cries(8), 80);
        due("one", with("sh9;p", "y:h", null).cries(8), 8);
        GuiltySleep x = with("sh9;pc1;pc2;pc3", "y:c+h", null);
        for (int hour = 0; hour < 9; hour++) {
            int want = Math.min(10, 1 + hour) + Math.min(10, 2 + hour) + Math.min(10, 3 + hour);
            due("hour " + hour, x.cries(hour), want);
        }
        due("hour 9", x.cries(9), NONE);
        due("hour -1", x.cries(-1), NONE);
        due("no town", new GuiltySleep().cries(0), NONE);
        due("one hour", Check.town("sh1;p").cries(0), 6);
        due("no second", Check.town("sh1;p").cries(1), NONE);
    }

    /** "BOOKED of a PERSON: how many HOURS of it are in THE BOOK" */
    private static void bookedUpToSixty() {
        GuiltySleep x = with("sh9;p;p", null, "000000001");
        due("none", x.booked(0, 0), 0);
        for (int i = 1; i <= 6; i++) {
            x.night(i);
            due("of 0", x.booked(0, 0), 8 * i);
            due("of 1", x.booked(1, 0), i);
        }
        x.night(7);
        due("of 0", x.booked(0, 0), 53);
        due("of 1", x.booked(1, 0), 7);
        Check.text(x, 2, "000000000");
        x.watch(1);
        Check.nights(x, 7);
        due("sixty", x.booked(0, 0), 60);
        due("none", x.booked(1, 0), 0);
        due("what 2", x.booked(0, 2), NONE);
        due("what -1", x.booked(0, -1), NONE);
        due("behind the last", x.booked(2, 0), NONE);
        due("ahead", x.booked(-1, 0), NONE);
    }

    /** "LACKS of a PERSON: how many HOURS more (0 .. 99 ..) it would take to be GUILTY"; "NONE: not by 99" */
    private static void lacksUpTo99() {
        for (int k = 1; k <= 30; k++) {
            GuiltySleep x = with("sh1k" + k + ";p", "y:0;v:1", "0");
            due("all of them", x.booked(0, 1), k);
            Check.nights(x, k - 1);
            due("one", x.booked(0, 1), 1);
            x.night(1);
            due("none", x.booked(0, 1), 0);
            x.night(1);
            due("none", x.booked(0, 1), 0);
        }
        int[] counts = {NONE, 30, 15, 10, 8, 6, 5, 5, 4, 4};
        for (int v = 0; v <= 9; v++) {
            due("by " + v, with("sk30;p", "v:" + v, null).booked(0, 1), counts[v]);
        }
        due("by -1", with("sk1;p", "v:0-1", null).booked(0, 1), NONE);
        // eight HOURS of -9 and some less in the last: 98, 99, 100 more are lacking
        for (int k = 27; k <= 29; k++) {
            GuiltySleep x = with("sh9k" + k + ";p", "y:0;v:h=0?1;v:0-9", "000000000");
            x.night(1);
            due("case", x.points(0), -71);
            due("lacks", x.booked(0, 1), k + 71 <= 99 ? k + 71 : NONE);
        }
    }

    /** "(.. HOUR 0, no LAMP lit, TIRED as now)" */
    private static void lacksByHourZero() {
        GuiltySleep x = with("sh9k6;pt2", "y:10;v:h=0&a=0&t=2?3;v:0", "0");
        due("tired 2", x.booked(0, 1), 2);
        x.night(1);
        due("tired 9", x.booked(0, 1), NONE);
        due("what 0", x.booked(0, 0), 1);
        x.undo();
        due("tired 2", x.booked(0, 1), 2);
    }

    /** "MEET of two PERSONS: of 10 to the 9 parts those by which there is an HOUR in which both are AWAKE" */
    private static void meetFromNothingToAll() {
        due("never", with("sh9;pc0;pc1", "y:c*10", null).meet(0, 1), 0);
        due("always", with("sh9;pc0;pc1", "y:10", null).meet(0, 1), ALL);
        due("in the last hour", with("sh9;p;p", "y:h=8?10", null).meet(0, 1), ALL);
        due("behind the last hour", with("sh8;p;p", "y:h=8?10", null).meet(0, 1), 0);
        due("never in one hour", with("sh9;pc0;pc1", "y:c=h?10", null).meet(0, 1), 0);
        due("one of 100", with("sh1;p;p", "y:1", null).meet(0, 1), 10000000);
        GuiltySleep x = Check.town(EIGHT);
        for (int one = -1; one <= 8; one++) {
            for (int other = -1; other <= 8; other++) {
                boolean asked = one >= 0 && one < 8 && other >= 0 && other < 8 && one != other;
                due("meet " + one + " " + other, x.meet(one, other) == NONE ? 0 : 1, asked ? 1 : 0);
            }
        }
    }

    /** "(each HOUR: what did not meet yet times both WAKES by 100, cut, meets)" */
    private static void meetCuts() {
        // 99 of 100 stay apart: 10 to the 9, then times 0.99 exactly, till cuts begin
        long[] apart = {1000000000L, 990000000L, 980100000L, 970299000L, 960596010L, 950990050L, 941480150L, 932065349L,
            922744696L, 913517250L};
        for (int hours = 1; hours <= 9; hours++) {
            GuiltySleep x = with("sh" + hours + ";p;p", "y:1", null);
            due("hours " + hours, x.meet(0, 1), ALL - apart[hours]);
        }
        GuiltySleep x = with("sh2;pc3;pc7", "y:c", null);
        due("21 of 100", x.meet(0, 1), 210000000 + 165900000);
        due("the other way", x.meet(1, 0), 210000000 + 165900000);
    }

    /** "NEEDS of a PERSON in an HOUR for v (0 .. 10): the least WORRY (0 .. 9)" */
    private static void needsLeast() {
        GuiltySleep x = with("sh1;pw5", "y:w+1", null);
        for (int v = -1; v <= 11; v++) {
            due("v " + v, x.needs(0, 0, v), v < 0 || v > 10 ? NONE : Math.max(0, v - 1));
        }
        x = with("sh1;pw5", "y:w", null);
        due("nine for nine", x.needs(0, 0, 9), 9);
        due("not with nine", x.needs(0, 0, 10), NONE);
        due("none is needed for 0", with("sh1;p", "y:0", null).needs(0, 0, 0), 0);
        due("not for 1", with("sh1;p", "y:0", null).needs(0, 0, 1), NONE);
        due("none is needed for 10", with("sh1;p", "y:10", null).needs(0, 0, 10), 0);
        due("the more the less", with("sh1;p", "y:9-w", null).needs(0, 0, 9), 0);
        due("the first that is enough", with("sh1;p", "y:w=4?8;y:w=7?9;y:1", null).needs(0, 0, 8), 4);
        due("the first that is enough", with("sh1;p", "y:w=4?8;y:w=7?9;y:1", null).needs(0, 0, 9), 7);
        x = with("sh1c2;pw5", "y:w", null);
        x.coffee(0);
        due("with coffee", x.needs(0, 0, 10), 8);
        due("its own worry is as it was", x.person(0, 2), 5);
    }

    /** "NONE: not with nine, no such ones, out of bounds" */
    private static void needsBounds() {
        GuiltySleep x = with("sh9;p;p", "y:h+w", null);
        due("first hour", x.needs(1, 0, 9), 9);
        due("last hour", x.needs(1, 8, 9), 1);
        due("behind it", x.needs(1, 9, 9), NONE);
        due("ahead", x.needs(1, -1, 9), NONE);
        due("behind the last", x.needs(2, 0, 0), NONE);
        due("ahead", x.needs(-1, 0, 0), NONE);
    }

    /** "LINE: PERSONS as digits by CASE (the most first, of several the lowest)" */
    private static void lineOrder() {
        due("no town", new GuiltySleep().line(), NONE);
        due("one", Check.town("p").line(), 0);
        due("two", Check.town("p;p").line(), 1);
        due("eight alike", Check.town(EIGHT).line(), 1234567);
        GuiltySleep x = with("sh8;" + EIGHT_APART, "v:c", "01234567");
        x.night(1);
        due("the last first", x.line(), 76543210);
        Check.text(x, 1, "v:0-c");
        x.law(1);
        due("below 0", x.line(), 1234567);
        Check.text(x, 1, "v:c/2");
        x.law(2);
        due("of several the lowest", x.line(), 67452301);
        Check.text(x, 1, "v:c=3?0-9;v:c=6?9;v:0");
        x.law(3);
        due("first and last", x.line(), 60124573);
        x.law(0);
        due("gaoled", x.judge(7), 1);
        due("one that is gaoled stays in the line", x.line(), 65432107);
        x = with("sh8;" + EIGHT_APART, "v:9-c", "01234567");
        x.night(1);
        due("the first first", x.line(), 1234567);
    }
}
