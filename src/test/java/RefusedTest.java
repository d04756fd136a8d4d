/**
 * "What is refused answers as told and changes nothing": every call that the document refuses, in objects that
 * are bare, without a TOWN, busy, and full; its answer, and all that can be seen of the object behind it.
 * And: what is only asked changes nothing either.
 */
public final class RefusedTest {
    private static final int NONE = -1;
    private static final int HIDDEN = -1000000;
    private static final int LEAST = Integer.MIN_VALUE;
    private static final int MOST = Integer.MAX_VALUE;
    private static final long THROWN = Long.MIN_VALUE;

    /** PERSONS of aBusyOne(). */
    private static final int PEOPLE = 4;
    private static final int HOURS = 4;
    private static final int[] NOBODY = {-1, PEOPLE, 8, LEAST, MOST};
    private static final int[] NO_HOUR = {-1, HOURS, 9, LEAST, MOST};

    private interface Make {
        GuiltySleep it();
    }

    private interface Call {
        long on(GuiltySleep x);
    }

    private final String name;
    private final Make make;
    private final String before;

    private RefusedTest(String name, Make make) {
        this.name = name;
        this.make = make;
        this.before = Whole.of(make.it());
    }

    public static void main(String[] args) {
        RefusedTest bare = new RefusedTest("bare", GuiltySleep::new);
        bare.withoutTown();
        bare.bare();
        RefusedTest townless = new RefusedTest("townless", RefusedTest::aTownlessOne);
        townless.withoutTown();
        townless.townless(2);
        RefusedTest busy = new RefusedTest("busy", RefusedTest::aBusyOne);
        busy.texts();
        busy.told();
        busy.held();
        busy.acts();
        busy.lists();
        busy.odds();
        busy.lampsAndTables();
        busy.couples();
        busy.compared();
        busy.onlyAsked();
        new RefusedTest("full", RefusedTest::aFullOne).full();
        new RefusedTest("full, a watch", RefusedTest::aFullOneWithWatch).fullOfWatches();
        new RefusedTest("near the last night", RefusedTest::aLateOne).nearLastNight();
        new RefusedTest("settled", RefusedTest::aSettledOne).settled();
        Check.end("RefusedTest");
    }

    private void refused(String what, long want, Call call) {
        GuiltySleep x = make.it();
        Check.due(name + ": " + what, call.on(x), want);
        Check.due(name + ": changed by " + what, Whole.of(x).equals(before), true);
    }

    private static long bit(boolean b) {
        return b ? 1 : 0;
    }

    // ---- objects

    private static GuiltySleep aTownlessOne() {
        GuiltySleep x = new GuiltySleep();
        Check.text(x, 1, "y:h;v:1-a");
        Check.text(x, 1, "v:2");
        Check.text(x, 2, "0189");
        Check.text(x, 2, "1");
        x.law(1);
        x.watch(0);
        x.crimes(3);
        Check.tape(x, "y:3+h");
        return x;
    }

    /**
     * PERSONS 0 and 1 are a couple; 3 is GAOLED, 1 was JUDGED and is not in THE BOOK, 0 and 2 are; 0 drank, 1 has a
     * LAMP FORGED, 2 has WORRY 7, 3 GUILT 9, 1 none; two LAMPS told, an IMAGE of NIGHT 3.
     */
    private static GuiltySleep aBusyOne() {
        GuiltySleep x = Check.with("sh4k3c2;pg4c6w1m1;pc2w0m0;pt3;pg9c0w0", "y:h=1?10;y:c+w-g-t;v:1-2*a", "3102");
        Check.text(x, 1, "v:h");
        Check.text(x, 2, "0");
        x.crimes(4);
        x.lamp(0, 1, true);
        x.lamp(2, 0, false);
        Check.nights(x, 3);
        Check.due("gaoled", x.judge(3), 1);
        x.image();
        Check.due("not gaoled", x.judge(1), 0);
        x.deed(2, 2);
        x.coffee(0);
        x.forge(1);
        x.worry(2, 7);
        Check.tape(x, "y:3+h");
        return x;
    }

    /** TAPE, LAWS, WATCHES, LAMPS, THE BOOK, the LOG, ACTS and NIGHTS are as many as can be. */
    private static GuiltySleep aFullOne() {
        GuiltySleep x = Check.with("sh9k30;p;pc9w9", "y:h=1?10;y:0;v:1-2*a", "000000000");
        for (int i = 1; i < 4; i++) {
            Check.text(x, 1, "y:" + i + ";v:" + i);
            Check.text(x, 2, "" + i);
        }
        for (int i = 0; i < 12; i++) {
            x.lamp(i % 2, 1, i < 6);
        }
        for (int i = 0; i < 60; i++) {
            x.night(i);
            x.judge(0);
        }
        for (int i = 0; i < 31; i++) {
            x.years(30, i);
        }
        x.image();
        x.years(9, 1);
        StringBuilder tape = new StringBuilder("y:1 ");
        for (int i = 0; i < 118; i++) {
            tape.append("+0");
        }
        Check.tape(x, tape.toString());
        return x;
    }

    private static GuiltySleep aFullOneWithWatch() {
        GuiltySleep x = aFullOne();
        Check.tape(x, "01");
        return x;
    }

    private static GuiltySleep aLateOne() {
        GuiltySleep x = Check.with("sh2;p;p", null, "01");
        for (int i = 0; i < 33; i++) {
            x.years(30, i);
        }
        Check.due("seven more", x.years(7, 1), 997);
        return x;
    }

    /** An object with a new TOWN behind another one: nothing can be UNDONE or brought BACK, and no LAW is there. */
    private static GuiltySleep aSettledOne() {
        GuiltySleep x = Check.with("sh2k1;pc0w0;p", null, "00");
        x.night(1);
        x.judge(0);
        x.image();
        Check.text(x, 0, "sh3;p;p;p");
        return x;
    }

    // ---- no TOWN

    private void withoutTown() {
        for (int what = 0; what < 3; what++) {
            int w = what;
            refused("rule", NONE, x -> x.rule(w));
            refused("who", NONE, x -> x.who(1, w));
            refused("people", NONE, x -> x.people(w));
            refused("most", NONE, x -> x.most(w));
        }
        for (int what = 0; what < 8; what++) {
            int w = what;
            refused("person", THROWN, x -> Whole.person(x, 0, w));
        }
        refused("wakes", NONE, x -> x.wakes(0, 0));
        refused("deed", NONE, x -> x.deed(0, 1));
        refused("coffee", 0, x -> bit(x.coffee(0)));
        refused("forge", 0, x -> bit(x.forge(0)));
        refused("worry", NONE, x -> x.worry(0, 5));
        refused("night", NONE, x -> x.night(1));
        refused("judge", NONE, x -> x.judge(0));
        refused("years", NONE, x -> x.years(1, 1));
        refused("undo", NONE, GuiltySleep::undo);
        refused("log", HIDDEN, x -> x.log(0, 0));
        refused("book", NONE, x -> x.book(0, 0));
        refused("points", HIDDEN, x -> x.points(0));
        refused("sleeps", NONE, x -> x.sleeps(0));
        refused("awake", NONE, x -> x.awake(0, 0));
        refused("seem", NONE, x -> x.seem(0, 0));
        refused("tells", NONE, x -> x.tells(0, 0));
        refused("lamp", NONE, x -> x.lamp(0, 0, true));
        refused("timetable", NONE, x -> x.timetable(1, 0));
        refused("timetable", NONE, x -> x.timetable(2, 1));
        refused("couple", HIDDEN, x -> x.couple(0, 0, 0, 0));
        refused("rests", NONE, x -> x.rests(0, NONE));
        refused("candle", NONE, x -> x.candle(0, 0, NONE));
        refused("likeliest", NONE, x -> x.likeliest(0, 0));
        refused("wronged", NONE, x -> x.wronged(NONE));
        refused("wronged", NONE, x -> x.wronged(0));
        refused("better", NONE, GuiltySleep::better);
        refused("cries", NONE, x -> x.cries(0));
        refused("booked", NONE, x -> x.booked(0, 0));
        refused("meet", NONE, x -> x.meet(0, 1));
        refused("needs", NONE, x -> x.needs(0, 0, 0));
        refused("line", NONE, GuiltySleep::line);
        refused("image", NONE, GuiltySleep::image);
        refused("back", NONE, GuiltySleep::back);
    }

    private void bare() {
        townless(0);
        refused("end 1", 0, x -> bit(x.end(1)));
        refused("end -1", 0, x -> bit(x.end(-1)));
        refused("crimes as they are", 0, x -> bit(x.crimes(0)));
        for (int sort = 0; sort < 3; sort++) {
            int s = sort;
            refused("text of nothing", NONE, x -> x.text(s));
        }
    }

    private void townless(int many) {
        refused("law", 0, x -> bit(x.law(many)));
        refused("law", 0, x -> bit(x.law(-2)));
        refused("watch", 0, x -> bit(x.watch(many)));
        refused("watch", 0, x -> bit(x.watch(-2)));
        refused("watched", HIDDEN, x -> x.watched(many, 0));
        refused("watched", HIDDEN, x -> x.watched(-1, 0));
        refused("a TAPE that is no TOWN", NONE, x -> x.text(0));
        refused("a TAPE that is no WATCH", NONE, x -> x.text(2));
    }

    // ---- a busy one

    private void texts() {
        for (int n : new int[] {-1, 6, 240, LEAST, MOST}) {
            refused("end " + n, 0, x -> bit(x.end(n)));
        }
        for (int sort : new int[] {-1, 3, LEAST, MOST}) {
            refused("fault " + sort, -2, x -> x.fault(sort));
            refused("text " + sort, NONE, x -> x.text(sort));
        }
        refused("a TAPE that is no TOWN", NONE, x -> x.text(0));
        refused("a TAPE that is no WATCH", NONE, x -> x.text(2));
    }

    private void told() {
        for (int what : new int[] {-1, 3, LEAST, MOST}) {
            refused("rule " + what, NONE, x -> x.rule(what));
        }
        for (int nobody : NOBODY) {
            refused("person " + nobody, THROWN, x -> Whole.person(x, nobody, 0));
            refused("wakes of " + nobody, NONE, x -> x.wakes(nobody, 0));
        }
        for (int what : new int[] {-1, 8, LEAST, MOST}) {
            refused("person's " + what, THROWN, x -> Whole.person(x, 0, what));
        }
        for (int hour : NO_HOUR) {
            refused("wakes in " + hour, NONE, x -> x.wakes(0, hour));
        }
        for (int what : new int[] {-1, 14, LEAST, MOST}) {
            refused("count " + what, HIDDEN, x -> x.count(what));
        }
    }

    private void held() {
        for (int none : new int[] {-2, 2, 4, LEAST, MOST}) {
            refused("law " + none, 0, x -> bit(x.law(none)));
            refused("watch " + none, 0, x -> bit(x.watch(none)));
        }
        for (int none : new int[] {-1, 2, 4, LEAST, MOST}) {
            refused("watched by " + none, HIDDEN, x -> x.watched(none, 0));
        }
        for (int hour : new int[] {-1, 9, LEAST, MOST}) {
            refused("watched in " + hour, HIDDEN, x -> x.watched(0, hour));
        }
        for (int v : new int[] {-1, 10, LEAST, MOST}) {
            refused("crimes " + v, 0, x -> bit(x.crimes(v)));
        }
        refused("crimes as they are", 0, x -> bit(x.crimes(4)));
    }

    private void acts() {
        for (int nobody : NOBODY) {
            refused("deed of " + nobody, NONE, x -> x.deed(nobody, 1));
            refused("coffee of " + nobody, 0, x -> bit(x.coffee(nobody)));
            refused("forge of " + nobody, 0, x -> bit(x.forge(nobody)));
            refused("worry of " + nobody, NONE, x -> x.worry(nobody, 5));
            refused("judge of " + nobody, NONE, x -> x.judge(nobody));
        }
        for (int n : new int[] {0, -10, 10, LEAST, MOST}) {
            refused("deed by " + n, NONE, x -> x.deed(0, n));
        }
        refused("deed above nine", NONE, x -> x.deed(3, 1));
        refused("deed above nine", NONE, x -> x.deed(0, 6));
        refused("deed below 0", NONE, x -> x.deed(1, -1));
        refused("deed below 0", NONE, x -> x.deed(0, -5));
        refused("it drank", 0, x -> bit(x.coffee(0)));
        refused("a LAMP is FORGED", 0, x -> bit(x.forge(1)));
        for (int v : new int[] {-1, 10, LEAST, MOST}) {
            refused("worry " + v, NONE, x -> x.worry(0, v));
        }
        refused("worry as it is", NONE, x -> x.worry(2, 7));
        refused("judge of one that is GAOLED", NONE, x -> x.judge(3));
        refused("judge of one that is not in THE BOOK", NONE, x -> x.judge(1));
        for (int n : new int[] {0, 31, -1, LEAST, MOST}) {
            refused("years " + n, NONE, x -> x.years(n, 1));
        }
    }

    private void lists() {
        for (int i : new int[] {-1, 2, 60, LEAST, MOST}) {
            refused("log " + i, HIDDEN, x -> x.log(i, 0));
        }
        for (int what : new int[] {-1, 3, LEAST, MOST}) {
            refused("log's " + what, HIDDEN, x -> x.log(0, what));
        }
        int length = aBusyOne().count(11);
        for (int i : new int[] {-1, length, 60, LEAST, MOST}) {
            refused("book " + i, NONE, x -> x.book(i, 0));
        }
        for (int what : new int[] {-1, 5, LEAST, MOST}) {
            refused("book's " + what, NONE, x -> x.book(0, what));
        }
    }

    private void odds() {
        for (int nobody : NOBODY) {
            refused("points of " + nobody, HIDDEN, x -> x.points(nobody));
            refused("sleeps of " + nobody, NONE, x -> x.sleeps(nobody));
            refused("awake of " + nobody, NONE, x -> x.awake(nobody, 1));
            refused("seem of " + nobody, NONE, x -> x.seem(nobody, 0));
            refused("tells of " + nobody, NONE, x -> x.tells(nobody, 0));
            refused("meet of " + nobody, NONE, x -> x.meet(nobody, 0));
            refused("meet with " + nobody, NONE, x -> x.meet(0, nobody));
            refused("needs of " + nobody, NONE, x -> x.needs(nobody, 0, 1));
            refused("booked of " + nobody, NONE, x -> x.booked(nobody, 0));
        }
        for (int n : new int[] {-1, 10, LEAST, MOST}) {
            refused("awake in " + n, NONE, x -> x.awake(0, n));
        }
        for (int watch : new int[] {-1, -2, 2, 4, LEAST, MOST}) {
            refused("seem by " + watch, NONE, x -> x.seem(0, watch));
        }
        for (int what : new int[] {-1, 2, LEAST, MOST}) {
            refused("tells " + what, NONE, x -> x.tells(0, what));
            refused("booked " + what, NONE, x -> x.booked(0, what));
        }
        for (int person = 0; person < PEOPLE; person++) {
            int p = person;
            refused("meet of alike", NONE, x -> x.meet(p, p));
        }
        for (int hour : NO_HOUR) {
            refused("needs in " + hour, NONE, x -> x.needs(0, hour, 1));
        }
        for (int v : new int[] {-1, 11, LEAST, MOST}) {
            refused("needs for " + v, NONE, x -> x.needs(0, 0, v));
        }
        refused("not with nine", NONE, x -> x.needs(3, 0, 1));
    }

    private void lampsAndTables() {
        for (int nobody : NOBODY) {
            refused("lamp of " + nobody, NONE, x -> x.lamp(nobody, 0, true));
            refused("candle of " + nobody, NONE, x -> x.candle(nobody, 1, NONE));
            refused("likeliest of " + nobody, NONE, x -> x.likeliest(nobody, 1));
        }
        for (int hour : NO_HOUR) {
            refused("lamp in " + hour, NONE, x -> x.lamp(0, hour, true));
        }
        for (int x9 : new int[] {0, 10, -1, LEAST, MOST}) {
            refused("who by " + x9, NONE, x -> x.who(x9, 0));
        }
        for (int what : new int[] {-1, 3, LEAST, MOST}) {
            refused("who " + what, NONE, x -> x.who(1, what));
        }
        for (int n : new int[] {0, 3, -1, LEAST, MOST}) {
            refused("timetable for " + n, NONE, x -> x.timetable(n, 0));
        }
        for (int what : new int[] {-1, 2, LEAST, MOST}) {
            refused("timetable " + what, NONE, x -> x.timetable(1, what));
        }
        // three PERSONS are free and there are four HOURS
        refused("no timetable", NONE, x -> x.timetable(1, 0));
        refused("no timetable", NONE, x -> x.timetable(1, 1));
        for (int n : new int[] {-1, 10, LEAST, MOST}) {
            refused("candle for " + n, NONE, x -> x.candle(0, n, NONE));
            refused("likeliest for " + n, NONE, x -> x.likeliest(0, n));
        }
        int many = aBusyOne().candle(0, 2, NONE);
        for (int i : new int[] {-2, many, LEAST, MOST}) {
            refused("candle " + i, NONE, x -> x.candle(0, 2, i));
        }
        refused("five of four", NONE, x -> x.likeliest(0, 5));
    }

    private void couples() {
        for (int nobody : NOBODY) {
            refused("couple of " + nobody, HIDDEN, x -> x.couple(nobody, 0, 0, 0));
            refused("rests of " + nobody, NONE, x -> x.rests(nobody, NONE));
        }
        for (int v : new int[] {-1, 2, LEAST, MOST}) {
            refused("x " + v, HIDDEN, x -> x.couple(0, v, 0, 0));
            refused("y " + v, HIDDEN, x -> x.couple(0, 0, v, 0));
            refused("what " + v, HIDDEN, x -> x.couple(0, 0, 0, v));
        }
        refused("couple of a single one", HIDDEN, x -> x.couple(2, 0, 0, 0));
        refused("rests of a single one", NONE, x -> x.rests(2, NONE));
        refused("rests of a single one", NONE, x -> x.rests(2, 0));
        for (int i : new int[] {-2, 3, LEAST, MOST}) {
            refused("rests " + i, NONE, x -> x.rests(0, i));
        }
    }

    private void compared() {
        for (int law : new int[] {-2, 2, 4, LEAST, MOST}) {
            refused("wronged by " + law, NONE, x -> x.wronged(law));
        }
        for (int what : new int[] {-1, 2, LEAST, MOST}) {
            refused("most " + what, NONE, x -> x.most(what));
        }
        for (int what : new int[] {-1, 3, LEAST, MOST}) {
            refused("people " + what, NONE, x -> x.people(what));
        }
        for (int hour : NO_HOUR) {
            refused("cries in " + hour, NONE, x -> x.cries(hour));
        }
    }

    private void unchanged(String what, Call call) {
        GuiltySleep x = make.it();
        call.on(x);
        Check.due(name + ": changed by asking " + what, Whole.of(x).equals(before), true);
    }

    private void onlyAsked() {
        unchanged("fault 0", x -> x.fault(0));
        unchanged("fault 1", x -> x.fault(1));
        unchanged("fault 2", x -> x.fault(2));
        unchanged("rule", x -> x.rule(0));
        unchanged("person", x -> x.person(0, 0));
        unchanged("watched", x -> x.watched(0, 0));
        unchanged("wakes", x -> x.wakes(0, 0));
        unchanged("log", x -> x.log(0, 0));
        unchanged("book", x -> x.book(0, 0));
        unchanged("points", x -> x.points(0));
        unchanged("sleeps", x -> x.sleeps(0));
        unchanged("awake", x -> x.awake(0, 1));
        unchanged("seem", x -> x.seem(0, 0));
        unchanged("seem by a WATCH that does not hold", x -> x.seem(0, 1));
        unchanged("tells", x -> x.tells(0, 0));
        unchanged("who", x -> x.who(9, 0));
        unchanged("sure", x -> x.who(9, 1));
        unchanged("ask", x -> x.who(9, 2));
        unchanged("timetable", x -> x.timetable(2, 0));
        unchanged("couple", x -> x.couple(0, 1, 1, 1));
        unchanged("rests", x -> x.rests(0, NONE));
        unchanged("candle", x -> x.candle(0, 2, NONE));
        unchanged("likeliest", x -> x.likeliest(0, 2));
        unchanged("wronged", x -> x.wronged(1));
        unchanged("better", GuiltySleep::better);
        unchanged("most 0", x -> x.most(0));
        unchanged("most 1", x -> x.most(1));
        unchanged("people", x -> x.people(2));
        unchanged("cries", x -> x.cries(0));
        unchanged("booked", x -> x.booked(0, 0));
        unchanged("lacks", x -> x.booked(0, 1));
        unchanged("meet", x -> x.meet(0, 1));
        unchanged("needs", x -> x.needs(0, 0, 9));
        unchanged("line", GuiltySleep::line);
        unchanged("count", x -> x.count(13));
        unchanged("the TAPE's own length", x -> bit(x.end(5)));
        unchanged("nothing fed", x -> x.feed(0, 0, 0, 0, 0));
        unchanged("the LAW that holds", x -> bit(x.law(0)));
        unchanged("the WATCH that holds", x -> bit(x.watch(0)));
    }

    // ---- full ones

    private void full() {
        int[] most = {2, 4, 4, 240, 0, 0, 999, 60, 0, 0, 12, 60, 60, 40};
        for (int what = 0; what < most.length; what++) {
            Check.due("full count " + what, aFullOne().count(what), most[what]);
        }
        refused("a 241st byte", NONE, x -> x.feed(0, 0, 0, 0, 1));
        refused("twenty more", NONE, x -> x.feed(-1, -1, -1, -1, -1));
        refused("end 241", 0, x -> bit(x.end(241)));
        refused("a fifth LAW", NONE, x -> x.text(1));
        refused("law 4", 0, x -> bit(x.law(4)));
        refused("watch 4", 0, x -> bit(x.watch(4)));
        refused("watched by 4", HIDDEN, x -> x.watched(4, 0));
        refused("wronged by 4", NONE, x -> x.wronged(4));
        refused("a thirteenth LAMP", NONE, x -> x.lamp(0, 0, true));
        refused("a thirteenth LAMP", NONE, x -> x.lamp(1, 8, false));
        refused("a NIGHT beyond 999", NONE, x -> x.night(1));
        refused("a year beyond 999", NONE, x -> x.years(1, 1));
        refused("thirty beyond 999", NONE, x -> x.years(30, 1));
        refused("a 61st of THE BOOK", NONE, x -> x.book(60, 0));
        refused("a 61st of the LOG", HIDDEN, x -> x.log(60, 0));
        refused("wakes in a tenth HOUR", NONE, x -> x.wakes(0, 9));
    }

    private void fullOfWatches() {
        refused("a fifth WATCH", NONE, x -> x.text(2));
    }

    private void nearLastNight() {
        for (int n = 3; n <= 30; n++) {
            int years = n;
            refused(n + " years beyond 999", NONE, x -> x.years(years, 1));
        }
        Check.due("two years", aLateOne().years(2, 1), 999);
        Check.due("one night", aLateOne().night(1), 998);
    }

    private void settled() {
        refused("nothing to undo", NONE, GuiltySleep::undo);
        refused("no IMAGE of this TOWN", NONE, GuiltySleep::back);
        refused("no LAW", NONE, GuiltySleep::better);
        refused("no LAW", NONE, x -> x.wronged(0));
        refused("no such WATCH", NONE, x -> x.seem(0, 1));
        refused("nobody is in THE BOOK", NONE, x -> x.judge(0));
        refused("THE BOOK is empty", NONE, x -> x.book(0, 0));
        refused("the LOG is empty", HIDDEN, x -> x.log(0, 0));
    }
}
