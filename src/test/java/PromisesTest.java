/** One method a promise of the document: ordinary inputs, edges, wrong inputs; reckoned by hand. */
public final class PromisesTest {
    private static final int NONE = -1;
    private static final int HIDDEN = -1000000;
    /** PERSON 0 wakes 3, 1 wakes 2, 2 wakes 3; 0 and 1 are a couple. */
    private static final String THREE = "sh3k2c3;pg4c6w1m1;pc2w0m0;pt3";
    /** PERSON 0 never wakes and has GUILT, 1 always wakes and has none. */
    private static final String SURE = "sh3k2;pg9c0w0m1;pc9w9m0";

    public static void main(String[] args) {
        newObject();
        feed();
        end();
        faultOfTowns();
        faultOfLaws();
        faultOfWatches();
        text();
        textForgets();
        rule();
        person();
        law();
        lawSigns();
        lawClauses();
        watch();
        watched();
        crimes();
        wakes();
        deed();
        coffee();
        forge();
        worry();
        night();
        nightDraws();
        nightLimit();
        judge();
        years();
        undo();
        undoLog();
        log();
        book();
        points();
        sleeps();
        awake();
        seem();
        tells();
        lamp();
        who();
        ask();
        timetable();
        couple();
        rests();
        candle();
        likeliest();
        wronged();
        better();
        most();
        people();
        cries();
        booked();
        meet();
        needs();
        line();
        image();
        back();
        count();
        Check.end("PromisesTest");
    }

    private static void due(String what, long got, long want) {
        Check.due(what, got, want);
    }

    private static void due(String what, boolean got, boolean want) {
        Check.due(what, got, want);
    }

    private static GuiltySleep with(String town, String law, String watch) {
        return Check.with(town, law, watch);
    }

    // 1
    private static void newObject() {
        GuiltySleep x = new GuiltySleep();
        int[] want = {0, 0, 0, 0, NONE, NONE, 0, 0, 0, 0, 0, 0, 0, 0};
        for (int what = 0; what < want.length; what++) {
            due("new count " + what, x.count(what), want[what]);
        }
        due("new rule", x.rule(0), NONE);
        due("new night", x.night(1), NONE);
        due("new back", x.back(), NONE);
        due("new law none", x.law(NONE), true);
        due("new watch none", x.watch(NONE), true);
        due("NONE", GuiltySleep.NONE, -1);
        due("HIDDEN", GuiltySleep.HIDDEN, -1000000);
    }

    // 2
    private static void feed() {
        GuiltySleep x = new GuiltySleep();
        due("nothing", x.feed(0, 0, 0, 0, 0), 0);
        due("zeros left out", x.feed(0x70006700, 0, 0, 0, 0x00000031), 3);
        due("highest first", x.fault(0), NONE);
        due("all", x.text(0), 1);
        due("guilt 1", x.person(0, 0), 1);
        for (int i = 1; i <= 12; i++) {
            due("feed " + i, x.feed(-1, -1, -1, -1, -1), 20 * i);
        }
        due("more than 240", x.feed(0, 0, 1, 0, 0), NONE);
        due("nothing more", x.feed(0, 0, 0, 0, 0), 240);
        due("239", x.end(239), true);
        due("two too many", x.feed(257, 0, 0, 0, 0), NONE);
        due("not one of them came", x.count(3), 239);
        due("one", x.feed(0, 0, 0, 0, 1), 240);
        for (int i = 0; i < 5; i++) {
            GuiltySleep z = new GuiltySleep();
            for (int j = 0; j < 11; j++) {
                z.feed(-1, -1, -1, -1, -1);
            }
            z.feed(-1, -1, -1, -1, 1);
            int[] w = {0, 0, 0, 0, 0};
            w[i] = 0x01010101;
            due("four too many as number " + i, z.feed(w[0], w[1], w[2], w[3], w[4]), NONE);
            w[i] = 0x01010001;
            due("three as number " + i, z.feed(w[0], w[1], w[2], w[3], w[4]), 240);
        }
        GuiltySleep y = new GuiltySleep();
        due("order", y.feed(0x70673263, 0x33773474, 0x35000000, 0, 0), 9);
        due("order", y.text(0), 1);
        due("order g", y.person(0, 0), 2);
        due("order c", y.person(0, 1), 3);
        due("order w", y.person(0, 2), 4);
        due("order t", y.person(0, 3), 5);
    }

    // 3
    private static void end() {
        GuiltySleep x = new GuiltySleep();
        due("end 0 of 0", x.end(0), true);
        due("end 1 of 0", x.end(1), false);
        Check.tape(x, "pg1x");
        due("below 0", x.end(-1), false);
        due("beyond", x.end(5), false);
        due("unchanged", x.count(3), 4);
        due("all of it", x.end(4), true);
        due("all of it is there", x.count(3), 4);
        due("first three", x.end(3), true);
        due("first three are there", x.count(3), 3);
        due("and are the first", x.fault(0), NONE);
        due("gone", x.end(4), false);
        due("least int", x.end(Integer.MIN_VALUE), false);
    }

    private static void fault(int sort, String text, int want) {
        due("fault(" + sort + ") of '" + text + "'", Check.fault(text, sort), want);
    }

    // 4
    private static void faultOfTowns() {
        String[] right = {"p", " p ", "s;p", "p;s", "sh9k30c9;p", "sh1k1c0;p", "pg9c9w9t9m8", "pg0c0w0t0m8",
            "sc3k4h6;p", "pm8t1w2c3g4", "pg05", "sh09;p", "sk05;p", "pm08", "p g 5 ; s h 2",
            "p;p;p;p;p;p;p;p", "s;p;p;p;p;p;p;p;p", "p;p;p;p;p;p;p;p;s", "pm1;pm0", "pm1;s;pm0", "pm3;pm2;pm1;pm0",
            "pm7;p;p;p;p;p;p;pm0"};
        for (String text : right) {
            fault(0, text, NONE);
        }
        fault(0, "", 0);
        fault(0, "   ", 3);
        fault(0, "s", 1);
        fault(0, "s ", 2);
        fault(0, "p;", 2);
        fault(0, "p; ", 3);
        fault(0, "pg", 2);
        fault(0, "pg ", 3);
        fault(0, "pgc", 2);
        fault(0, "pg;p", 2);
        fault(0, ";p", 0);
        fault(0, "p;;p", 2);
        fault(0, "x", 0);
        fault(0, "P", 0);
        fault(0, "p5", 1);
        fault(0, "ps", 1);
        fault(0, "pk3", 1);
        fault(0, "sg3;p", 1);
        fault(0, "sm3;p", 1);
        fault(0, "s;s;p", 2);
        fault(0, "s;p;s", 4);
        fault(0, "sh3h3;p", 3);
        fault(0, "pg1c2g3", 5);
        fault(0, "sh3k1h3;p", 5);
        fault(0, "pg1 g1", 4);
        fault(0, "sh0;p", 2);
        fault(0, "sh00;p", 3);
        fault(0, "sh0", 2);
        fault(0, "sh10;p", 3);
        fault(0, "sk0;p", 2);
        fault(0, "sk31;p", 3);
        fault(0, "sc10;p", 3);
        fault(0, "pg10", 3);
        fault(0, "pc10", 3);
        fault(0, "pc99", 3);
        fault(0, "pw10", 3);
        fault(0, "pt10", 3);
        fault(0, "pm9", 2);
        fault(0, "pm10", 3);
        fault(0, "pg005", 4);
        fault(0, "pg995", 4);
        fault(0, "sh999;p", 4);
        fault(0, "sh1 0;p", 4);
        fault(0, "pg1 0", 4);
        fault(0, "pg10x", 3);
        fault(0, "pg1x", 3);
        fault(0, "p;p;p;p;p;p;p;p;p", 16);
        fault(0, "s;p;p;p;p;p;p;p;p;p", 18);
        fault(0, "s;p;p;p;p;p;p;p;p;", 18);
        fault(0, "pm0", 3);
        fault(0, "pm1", 3);
        fault(0, "pm1;p", 5);
        fault(0, "pm1;p ", 6);
        fault(0, "p;pm0", 5);
        fault(0, "p;pm1", 5);
        fault(0, "pm1;pm2;pm0", 11);
        fault(0, "pm2;p;pm1", 9);
        fault(0, "pm1;pm0;pm0", 11);
        fault(0, "p" + (char) 233, 1);
        fault(3, "p", -2);
        fault(-1, "p", -2);
        fault(Integer.MIN_VALUE, "", -2);
    }

    private static void faultOfLaws() {
        String[] right = {"y:1", "v:1", " y : 1 ", "y:g;v:a", "y:g+c-w*t/h", "y:[g]", "y:[[[[[[g]]]]]]", "y:9999",
            "y:0000", "y:g=1?2", "y:g<1&c>2|w=3?4", "y:!g=1?2", "y:!!!!!!g=1?2", "y:(g=1)?2", "y:((((((g=1))))))?2",
            "y:!(!([g]=1))?2", "y:[g+1]*2>3?4", "y:g=1?2;y:3;v:4", "y:(g=1)&!(c=2)&!(w=3)?[g]*[c]", "y:1;y:2",
            "y:[g]=[c]?[w]", "y: 12 + 3", "y:!([[[[g]]]]=1)?1",
            "y:1=[[[[[[g]]]]]]?1", "y:[[[[[[g]]]]]]=1?[[[[[[g]]]]]]", "y:1=1|[[[[[[g]]]]]]=1&!!!!!!g=1?1"};
        for (String text : right) {
            fault(1, text, NONE);
        }
        fault(1, "", 0);
        fault(1, "  ", 2);
        fault(1, "x:1", 0);
        fault(1, "y", 1);
        fault(1, "y1", 1);
        fault(1, "y:", 2);
        fault(1, "y: ", 3);
        fault(1, "y:;v:1", 2);
        fault(1, "y:-1", 2);
        fault(1, "y:1+", 4);
        fault(1, "y:1+-1", 4);
        fault(1, "y:1 2", 4);
        fault(1, "y:12345", 6);
        fault(1, "y:00000", 6);
        fault(1, "y:1;", 4);
        fault(1, "y:1;;", 4);
        fault(1, "y:1;x", 4);
        fault(1, "y:gc", 3);
        fault(1, "y:b", 2);
        fault(1, "y:m", 2);
        fault(1, "y:g=", 4);
        fault(1, "y:g=1", 5);
        fault(1, "y:g=1;v:1", 5);
        fault(1, "y:g=1=1?2", 5);
        fault(1, "y:g=1?", 6);
        fault(1, "y:g=1?2=3", 7);
        fault(1, "y:g=1?2?3", 7);
        fault(1, "y:g=1?!1", 6);
        fault(1, "y:g=1?(1)", 6);
        fault(1, "y:1?2", 3);
        fault(1, "y:1&2", 3);
        fault(1, "y:1|2", 3);
        fault(1, "y:(g)", 4);
        fault(1, "y:(g=1", 6);
        fault(1, "y:(g=1)", 7);
        fault(1, "y:(g=1)+1", 7);
        fault(1, "y:(g=1)=1", 7);
        fault(1, "y:(g=1]", 6);
        fault(1, "y:[g=1]", 4);
        fault(1, "y:[g)", 4);
        fault(1, "y:[g", 4);
        fault(1, "y:[]", 3);
        fault(1, "y:()", 3);
        fault(1, "y:!1", 4);
        fault(1, "y:!g?1", 4);
        fault(1, "y:g=1&?1", 6);
        fault(1, "y:g=1&!(c=1)x", 12);
        fault(1, "y:g)", 3);
        fault(1, "y:1 :", 4);
        fault(1, "y:[[[[[[[g]]]]]]]", 8);
        fault(1, "y:(((((((g=1)))))))?2", 8);
        fault(1, "y:!!!!!!!g=1?2", 8);
        fault(1, "y:!!!!!!(g=1)?2", 8);
        fault(1, "y:!!!!!![g]=1?2", 8);
        fault(1, "y:(!(!(![g]=1)))?2", 8);
        fault(1, "y:g=1?[[[[[[[1", 12);
        fault(1, "y:g=1&((((((c=[1", 14);
    }

    private static void faultOfWatches() {
        String[] right = {"0", "9", "012345678", " 1 2 3 ", "999999999", "8"};
        for (String text : right) {
            fault(2, text, NONE);
        }
        fault(2, "", 0);
        fault(2, "  ", 2);
        fault(2, "0123456789", 9);
        fault(2, "012345678 9", 10);
        fault(2, "012345678;", 9);
        fault(2, "1;", 1);
        fault(2, "a", 0);
        fault(2, "1 a", 2);
        fault(2, "/", 0);
        fault(2, ":", 0);
    }

    // 5
    private static void text() {
        GuiltySleep x = new GuiltySleep();
        Check.tape(x, "pg10");
        due("fault", x.text(0), NONE);
        due("the tape is left", x.count(3), 4);
        due("no such sort", x.text(3), NONE);
        due("no such sort", x.text(-1), NONE);
        due("three", Check.text(x, 0, THREE), 3);
        due("the tape is empty", x.count(3), 0);
        for (int i = 0; i < 4; i++) {
            due("law " + i, Check.text(x, 1, "y:" + i), i);
            due("watch " + i, Check.text(x, 2, "" + i), i);
        }
        due("a fifth law", Check.text(x, 1, "y:1"), NONE);
        due("the tape is left", x.count(3), 3);
        due("a fifth watch", Check.text(x, 2, "12"), NONE);
        due("the tape is left", x.count(3), 2);
        due("four", x.count(1), 4);
        due("four", x.count(2), 4);
        due("a town goes on", Check.text(x, 0, "p"), 1);
    }

    private static void textForgets() {
        GuiltySleep x = with(SURE, "y:g;v:1", "01");
        x.crimes(4);
        x.lamp(0, 0, true);
        x.coffee(1);
        x.night(3);
        x.judge(0);
        x.image();
        due("a bad one", Check.text(x, 0, "q"), NONE);
        due("changes nothing", x.count(6), 1);
        due("changes nothing", x.count(10), 1);
        due("another town", Check.text(x, 0, "p;p"), 2);
        int[] want = {2, 1, 1, 0, 0, 0, 0, 0, 0, 4, 0, 0, 0, 0};
        for (int what = 0; what < want.length; what++) {
            due("count " + what + " of another town", x.count(what), want[what]);
        }
        due("no image", x.back(), NONE);
        due("no undo", x.undo(), NONE);
        due("nobody gaoled", x.person(0, 7), 0);
        due("rules of old are gone", x.rule(1), 4);
        Check.text(x, 0, "pg3t2");
        due("one", x.count(0), 1);
        due("no second", x.points(1), HIDDEN);
    }

    // 6
    private static void rule() {
        GuiltySleep x = Check.town("p");
        due("hours", x.rule(0), 6);
        due("points", x.rule(1), 4);
        due("coffee", x.rule(2), 3);
        due("no such", x.rule(3), NONE);
        due("no such", x.rule(-1), NONE);
        x = Check.town("p;s c0 k30 h9");
        due("hours", x.rule(0), 9);
        due("points", x.rule(1), 30);
        due("coffee", x.rule(2), 0);
    }

    // 7
    private static void person() {
        GuiltySleep x = Check.town(THREE);
        int[][] want = {{4, 6, 1, 0, 1, 0, 0, 0}, {0, 2, 0, 0, 0, 0, 0, 0}, {0, 5, 1, 3, NONE, 0, 0, 0}};
        for (int i = 0; i < 3; i++) {
            for (int what = 0; what < 8; what++) {
                due("person(" + i + ", " + what + ")", x.person(i, what), want[i][what]);
            }
        }
        Check.refusedPerson(x, 3, 0);
        Check.refusedPerson(x, -1, 0);
        Check.refusedPerson(x, 0, 8);
        Check.refusedPerson(x, 0, -1);
        Check.refusedPerson(x, Integer.MIN_VALUE, Integer.MAX_VALUE);
        Check.refusedPerson(new GuiltySleep(), 0, 0);
        x.coffee(0);
        x.forge(1);
        due("coffee", x.person(0, 5), 1);
        due("no lamp", x.person(0, 6), 0);
        due("lamp", x.person(1, 6), 1);
        due("no coffee", x.person(1, 5), 0);
    }

    // 8
    private static void law() {
        GuiltySleep x = Check.town("pg2c7w3t1");
        due("no such", x.law(0), false);
        Check.text(x, 1, "y:1");
        Check.text(x, 1, "y:g");
        due("none holds yet", x.count(4), NONE);
        due("plain", x.wakes(0, 0), 7);
        due("first", x.law(0), true);
        due("holds", x.count(4), 0);
        due("by it", x.wakes(0, 0), 1);
        due("again", x.law(0), true);
        due("second", x.law(1), true);
        due("by it", x.wakes(0, 0), 2);
        due("no such", x.law(2), false);
        due("no such", x.law(-2), false);
        due("still", x.count(4), 1);
        due("none", x.law(NONE), true);
        due("none", x.count(4), NONE);
        due("plain again", x.wakes(0, 0), 7);
        due("is no act", x.count(13), 0);
    }

    private static void wakesBy(String sum, int want) {
        GuiltySleep x = with("sh9;p;pg2c7w3t1", "y:" + sum, null);
        due("wakes by " + sum, x.wakes(1, 4), want);
    }

    private static void lawSigns() {
        wakesBy("g", 2);
        wakesBy("c", 7);
        wakesBy("w", 3);
        wakesBy("t", 1);
        wakesBy("h", 4);
        wakesBy("a", 0);
        wakesBy("a+5", 5);
        wakesBy("1-2+4", 3);
        wakesBy("9-4-3", 2);
        wakesBy("1+2*3", 7);
        wakesBy("9/2/2", 2);
        wakesBy("9-[4-3]", 8);
        wakesBy("[1+2]*3", 9);
        wakesBy("8/[4/2]", 4);
        wakesBy("7/2*2", 6);
        wakesBy("[0-7]/2+9", 6);
        wakesBy("7/[0-2]+9", 6);
        wakesBy("5/0+3", 3);
        wakesBy("9999", 10);
        wakesBy("0-9999", 0);
        wakesBy("9999*9999/9999/10", 10);
        // one sign after the other: 1,000,000 less 1,000,000
        wakesBy("9999*9999-1000*1000+4", 4);
        wakesBy("9999*9999*9999/9999-100+4", 4);
        wakesBy("0-9999*9999+1000*1000+6", 6);
        wakesBy("[0-9999]*9999+1000*1000+7", 7);
        wakesBy("9999*100+9999*100-1000*1000+5", 5);
        wakesBy("g=2?6", 6);
        wakesBy("g=1?6", 0);
        wakesBy("g<3?6", 6);
        wakesBy("g<2?6", 0);
        wakesBy("g>1?6", 6);
        wakesBy("g>2?6", 0);
        wakesBy("!g>2?6", 6);
        wakesBy("!!g>2?6", 0);
        wakesBy("g=2&c=6?6", 0);
        wakesBy("g=2&c=7?6", 6);
        wakesBy("g=3|c=7?6", 6);
        wakesBy("g=3|c=6?6", 0);
        wakesBy("g=2|c=6&w=9?6", 6);
        wakesBy("(g=2|c=6)&w=9?6", 0);
        wakesBy("w=9&c=6|g=2?6", 6);
        wakesBy("!g=3&c=6?6", 0);
        wakesBy("!(g=3&c=7)?6", 6);
        wakesBy("!g=2|c=7?6", 6);
        wakesBy("g+c=[w*3]&t+1=2?[g+c]-1", 8);
        wakesBy("0-1<0?4", 4);
        // as deep as may be, with all that can wait
        wakesBy("1+1*[1+1*[1+1*[1+1*[1+1*[1+1*[1+1*1]]]]]]", 8);
        wakesBy("g=9|g=2&(g=9|g=2&(g=9|g=2&(g=9|g=2&(g=9|g=2&(g=9|g=2&1=1+1*0)))))?6", 6);
        wakesBy("g=9|g=2&1=1+1*[0*1+1*[0*1+1*[0*1+1*[0*1+1*[0*1+1*[1-1]]]]]]?6", 6);
    }

    private static void lawClauses() {
        GuiltySleep x = with("sh3;pg2", "v:3;y:h=0?1;y:h=1?2;y:5;y:6;v:4", "0");
        due("first", x.wakes(0, 0), 1);
        due("second", x.wakes(0, 1), 2);
        due("without a condition", x.wakes(0, 2), 5);
        x.night(1);
        due("first of v", x.points(0), 3);
        x = with("sh1c2;pg2c9", "v:0-50", "0");
        due("no y: 0", x.wakes(0, 0), 0);
        x.coffee(0);
        due("and coffee", x.wakes(0, 0), 2);
        x.night(1);
        due("held at -9", x.points(0), -9);
        x = with("sh1;pg2c9", "v:50", "0");
        x.night(1);
        due("held at 9", x.points(0), 9);
        // a LAW that was refused leaves nothing in the next one
        x = Check.town("p");
        due("refused", Check.text(x, 1, "y:!g=1?2;y:7;v:4x"), NONE);
        due("taken", Check.text(x, 1, "y:1+2"), 0);
        x.law(0);
        due("by the one taken", x.wakes(0, 0), 3);
        StringBuilder many = new StringBuilder();
        for (int i = 0; i < 59; i++) {
            many.append("y:").append(i % 10).append(";");
        }
        x = with("sh1;pg2c9", many + "v:2", "0");
        due("sixty clauses", x.wakes(0, 0), 0);
        x.night(1);
        due("the sixtieth", x.points(0), 2);
        StringBuilder signs = new StringBuilder("y:1");
        for (int i = 0; i < 237; i++) {
            signs.append(i % 2 == 0 ? "+" : "0");
        }
        fault(1, signs.toString(), 240);
        x = with("sh1;pg2c9", signs.substring(0, 239), null);
        due("239 bytes", x.wakes(0, 0), 1);
        x = with("sh1;pg2c9", "y:5;v:g=1?2", "0");
        x.night(1);
        due("no clause of v that holds: 0", x.points(0), 0);
    }

    // 9
    private static void watch() {
        GuiltySleep x = Check.town("sh3;p;p");
        due("no such", x.watch(0), false);
        Check.text(x, 2, "010");
        Check.text(x, 2, "1");
        due("none holds yet", x.count(5), NONE);
        x.night(1);
        due("nobody is watched", x.count(11), 0);
        due("holds", x.watch(1), true);
        due("holds", x.count(5), 1);
        x.night(1);
        due("one hour", x.count(11), 1);
        due("who", x.book(0, 2), 1);
        due("no such", x.watch(2), false);
        due("no such", x.watch(-2), false);
        due("still", x.count(5), 1);
        due("first", x.watch(0), true);
        x.night(1);
        due("three more", x.count(11), 4);
        due("none", x.watch(NONE), true);
        due("none", x.count(5), NONE);
        x.night(1);
        due("none more", x.count(11), 4);
        due("nights alone are acts", x.count(13), 4);
    }

    // 10
    private static void watched() {
        GuiltySleep x = new GuiltySleep();
        due("no such", x.watched(0, 0), HIDDEN);
        Check.text(x, 2, "08 9 7");
        int[] want = {0, 8, NONE, 7, NONE, NONE, NONE, NONE, NONE};
        for (int hour = 0; hour < 9; hour++) {
            due("watched " + hour, x.watched(0, hour), want[hour]);
        }
        due("hour", x.watched(0, 9), HIDDEN);
        due("hour", x.watched(0, -1), HIDDEN);
        due("watch", x.watched(1, 0), HIDDEN);
        due("watch", x.watched(-1, 0), HIDDEN);
        Check.text(x, 0, "sh2;p");
        due("as told, beyond the hours", x.watched(0, 3), 7);
        Check.text(x, 2, "012345670");
        due("the ninth", x.watched(1, 8), 0);
        due("the first is as it was", x.watched(0, 1), 8);
    }

    // 11
    private static void crimes() {
        GuiltySleep x = new GuiltySleep();
        due("it is so", x.crimes(0), false);
        due("nine", x.crimes(9), true);
        due("nine", x.count(9), 9);
        due("it is so", x.crimes(9), false);
        due("ten", x.crimes(10), false);
        due("below", x.crimes(-1), false);
        due("still", x.count(9), 9);
        due("none", x.crimes(0), true);
        due("none", x.count(9), 0);
        due("no act", x.count(13), 0);
    }

    // 12
    private static void wakes() {
        GuiltySleep x = Check.town(THREE);
        due("0", x.wakes(0, 0), 3);
        due("1", x.wakes(1, 2), 2);
        due("2", x.wakes(2, 1), 3);
        due("hour", x.wakes(0, 3), NONE);
        due("hour", x.wakes(0, -1), NONE);
        due("person", x.wakes(3, 0), NONE);
        due("person", x.wakes(-1, 0), NONE);
        x = Check.town(SURE);
        due("0 at least", x.wakes(0, 0), 0);
        due("10 at most", x.wakes(1, 0), 10);
        x.coffee(0);
        due("coffee, before it is held", x.wakes(0, 0), 0);
        x = with("sh2;p", "y:10-5*h", null);
        due("hour 0", x.wakes(0, 0), 10);
        due("hour 1", x.wakes(0, 1), 5);
        x.coffee(0);
        due("hour 1, coffee", x.wakes(0, 1), 8);
        due("hour 0, coffee", x.wakes(0, 0), 10);
    }

    // 13
    private static void deed() {
        GuiltySleep x = Check.town("pg4;p");
        due("more", x.deed(0, 5), 9);
        due("above nine", x.deed(0, 1), NONE);
        due("less", x.deed(0, -9), 0);
        due("below 0", x.deed(0, -1), NONE);
        due("0", x.deed(0, 0), NONE);
        due("ten", x.deed(1, 10), NONE);
        due("ten less", x.deed(1, -10), NONE);
        due("nine", x.deed(1, 9), 9);
        due("no such", x.deed(2, 1), NONE);
        due("no such", x.deed(-1, 1), NONE);
        due("least", x.deed(0, Integer.MIN_VALUE), NONE);
        due("guilt", x.person(1, 0), 9);
        due("acts", x.count(13), 3);
    }

    // 14
    private static void coffee() {
        GuiltySleep x = Check.town("sc2;p;pg5");
        due("one", x.coffee(1), true);
        due("wakes", x.wakes(1, 0), 3);
        due("the other not", x.wakes(0, 0), 6);
        due("it drank", x.coffee(1), false);
        due("no such", x.coffee(2), false);
        due("no such", x.coffee(-1), false);
        due("acts", x.count(13), 1);
        x.night(1);
        due("all is drunk", x.person(1, 5), 0);
        due("again", x.coffee(1), true);
    }

    // 15
    private static void forge() {
        GuiltySleep x = with(SURE, null, "000");
        due("one", x.forge(0), true);
        due("it is", x.forge(0), false);
        due("no such", x.forge(2), false);
        due("no such", x.forge(-1), false);
        due("acts", x.count(13), 1);
        due("wakes as ever", x.wakes(0, 0), 0);
        x.night(1);
        due("lit in all hours", x.book(0, 3) + x.book(1, 3) + x.book(2, 3), 3);
        due("not tired", x.person(0, 3), 0);
        due("no longer", x.person(0, 6), 0);
        x.night(1);
        due("not lit then", x.book(0, 3), 0);
        due("again", x.forge(0), true);
    }

    // 16
    private static void worry() {
        GuiltySleep x = Check.town("pw3");
        due("it is so", x.worry(0, 3), NONE);
        due("was", x.worry(0, 9), 3);
        due("was", x.worry(0, 0), 9);
        due("out of bounds", x.worry(0, 10), NONE);
        due("out of bounds", x.worry(0, -1), NONE);
        due("no such", x.worry(1, 1), NONE);
        due("no such", x.worry(-1, 1), NONE);
        due("is", x.person(0, 2), 0);
        due("wakes", x.wakes(0, 0), 5);
        due("acts", x.count(13), 2);
    }

    // 17
    private static void night() {
        GuiltySleep x = with(SURE, null, "0 1 8");
        due("first", x.night(5), 1);
        due("two hours", x.count(11), 2);
        due("asleep", x.person(0, 3), 0);
        due("awake", x.person(1, 3), 3);
        due("no lamp", x.book(1, 3), 0);
        due("a lamp", x.book(0, 3), 1);
        due("tired ahead", x.book(0, 4), 0);
        due("second", x.night(5), 2);
        due("tired ahead", x.book(0, 4), 3);
        due("the night put down", x.book(0, 0), 1);
        due("acts", x.count(13), 2);
        x = with("sh9;pc9w9;p", null, "1111");
        x.night(1);
        due("nine hours", x.person(0, 3), 9);
        due("hours that are not told", x.count(11), 4);
        x = with("sh2;p;p", null, "00111");
        x.night(1);
        due("more digits than hours", x.count(11), 2);
    }

    private static void nightDraws() {
        long[] seeds = {0, 1, 42, -1, Long.MIN_VALUE, Long.MAX_VALUE, 123456789012345L};
        for (long seed : seeds) {
            GuiltySleep x = with("sh7;pc5w0;pc7w0;pc2w0t1", null, "0120120");
            int[] wakes = {5, 7, 1};
            int[] tired = {0, 0, 1};
            Draws draws = new Draws(seed);
            int[] awake = new int[3];
            int[] lit = new int[7];
            for (int hour = 0; hour < 7; hour++) {
                for (int i = 0; i < 3; i++) {
                    boolean up = draws.of(10) < wakes[i];
                    awake[i] += up ? 1 : 0;
                    lit[hour] = i == hour % 3 ? (up ? 1 : 0) : lit[hour];
                }
            }
            due("night by " + seed, x.night(seed), 1);
            for (int i = 0; i < 3; i++) {
                due("tired " + i + " by " + seed, x.person(i, 3), awake[i]);
            }
            for (int i = 0; i < 7; i++) {
                due("hour", x.book(i, 1), 6 - i);
                due("person", x.book(i, 2), (6 - i) % 3);
                due("lamp", x.book(i, 3), lit[6 - i]);
                due("tired", x.book(i, 4), tired[(6 - i) % 3]);
            }
        }
    }

    private static void nightLimit() {
        GuiltySleep x = Check.town("sh1;p");
        for (int i = 1; i <= 33; i++) {
            due("years", x.years(30, i), 30 * i);
        }
        due("beyond", x.years(10, 1), NONE);
        due("still", x.count(6), 990);
        due("up to it", x.years(9, 1), 999);
        due("beyond", x.night(1), NONE);
        due("beyond", x.years(1, 1), NONE);
        due("undone", x.undo(), 39);
        due("one ahead", x.count(6), 998);
        due("beyond", x.years(2, 1), NONE);
        due("last", x.night(1), 999);
        due("beyond", x.night(1), NONE);
        due("acts", x.count(13), 40);
        due("image", x.image(), 999);
    }

    // 18
    private static void judge() {
        GuiltySleep x = with(SURE, null, "001");
        due("not in the book", x.judge(0), NONE);
        x.night(1);
        due("points", x.points(0), 2);
        due("points", x.points(1), -1);
        due("no such", x.judge(2), NONE);
        due("no such", x.judge(-1), NONE);
        due("gaoled", x.judge(0), 1);
        due("is so", x.person(0, 7), 1);
        due("right", x.count(7), 1);
        due("its hours leave", x.count(11), 1);
        due("the other's stay", x.book(0, 2), 1);
        due("gaoled already", x.judge(0), NONE);
        due("not", x.judge(1), 0);
        due("is not", x.person(1, 7), 0);
        due("right", x.count(7), 2);
        due("wrong", x.count(8), 0);
        due("not in the book", x.judge(1), NONE);
        x.night(1);
        due("who is gaoled is not watched", x.count(11), 1);
        due("but wakes by draws", x.count(6), 2);
        x.deed(1, 1);
        due("not", x.judge(1), 0);
        due("wrong", x.count(8), 1);
        due("right", x.count(7), 2);
        // one without guilt that never wakes
        x = with("sh2k2;pc0w0;p", null, "0011");
        x.night(1);
        due("gaoled", x.judge(0), 1);
        due("wrong", x.count(8), 1);
        due("free", x.people(0), 2);
        due("acts", x.count(13), 2);
        // one point too few
        x = with("sh2k3;pg1c0w0", null, "00");
        x.night(1);
        due("not", x.judge(0), 0);
        due("wrong", x.count(8), 1);
    }

    // 19
    private static void years() {
        GuiltySleep x = Check.town("sh2;pg8;p;p");
        due("out of bounds", x.years(0, 1), NONE);
        due("out of bounds", x.years(31, 1), NONE);
        due("out of bounds", x.years(-1, 1), NONE);
        due("out of bounds", x.years(Integer.MAX_VALUE, 1), NONE);
        due("no act", x.count(13), 0);
        for (int crimes = 0; crimes < 10; crimes += 3) {
            yearsBy(crimes, 77 + crimes);
            yearsBy(crimes, -5 - crimes);
        }
        due("one", x.years(1, 1), 1);
        x.undo();
        due("thirty", x.years(30, 1), 30);
        due("each is one act", x.count(13), 30);
        due("undone", x.undo(), 29);
        due("one", x.count(6), 29);
    }

    private static void yearsBy(int crimes, long seed) {
        GuiltySleep x = Check.town("sh2;pg8;p;p");
        x.crimes(crimes);
        Draws draws = new Draws(seed);
        int[] guilt = {8, 0, 0};
        int[] worry = {1, 1, 1};
        int[] tired = {0, 0, 0};
        for (int year = 0; year < 6; year++) {
            int who = draws.of(3);
            worry[who] = draws.of(10);
            if (draws.of(10) < crimes) {
                int bad = draws.of(3);
                guilt[bad] = Math.min(9, guilt[bad] + 3);
            }
            int[] awake = new int[3];
            for (int hour = 0; hour < 2; hour++) {
                for (int i = 0; i < 3; i++) {
                    awake[i] += draws.of(10) < 5 + worry[i] - guilt[i] - tired[i] ? 1 : 0;
                }
            }
            tired = awake;
        }
        due("six", x.years(6, seed), 6);
        for (int i = 0; i < 3; i++) {
            due("guilt", x.person(i, 0), guilt[i]);
            due("worry", x.person(i, 2), worry[i]);
            due("tired", x.person(i, 3), tired[i]);
        }
        due("acts", x.count(13), 6);
    }

    // 20
    private static void undo() {
        GuiltySleep x = with(SURE, null, "001");
        due("none", x.undo(), NONE);
        x.deed(0, -3);
        x.coffee(0);
        x.forge(1);
        x.worry(0, 7);
        x.night(9);
        x.judge(1);
        x.deed(0, 99);
        due("six", x.count(13), 6);
        due("judged", x.undo(), 5);
        due("right", x.count(7), 0);
        due("log", x.count(12), 0);
        due("book", x.count(11), 3);
        due("the night", x.undo(), 4);
        due("night", x.count(6), 0);
        due("book", x.count(11), 0);
        due("coffee", x.person(0, 5), 1);
        due("forged", x.person(1, 6), 1);
        due("tired", x.person(1, 3), 0);
        due("worry", x.undo(), 3);
        due("worry", x.person(0, 2), 0);
        due("lamp", x.undo(), 2);
        due("lamp", x.person(1, 6), 0);
        due("coffee", x.undo(), 1);
        due("coffee", x.person(0, 5), 0);
        due("deed", x.undo(), 0);
        due("deed", x.person(0, 0), 9);
        due("none", x.undo(), NONE);
        for (int i = 0; i < 45; i++) {
            x.worry(0, i % 2 == 0 ? 5 : 6);
        }
        due("the latest 40", x.count(13), 40);
        for (int i = 39; i >= 0; i--) {
            due("undo", x.undo(), i);
        }
        due("no more", x.undo(), NONE);
        due("behind the fifth", x.person(0, 2), 5);
        // what holds and lamps told are no acts
        x.law(NONE);
        x.watch(NONE);
        x.lamp(0, 0, true);
        x.crimes(1);
        due("none", x.undo(), NONE);
    }

    private static void undoLog() {
        GuiltySleep x = with("sh9k30;p;p", null, "000000000");
        for (int i = 0; i < 61; i++) {
            x.night(i);
            due("not", x.judge(0), 0);
        }
        due("sixty", x.count(12), 60);
        due("sixty at most", x.log(60, 0), HIDDEN);
        int second = x.log(59, 2);
        due("61", x.count(7), 61);
        x.undo();
        due("sixty again", x.count(12), 60);
        due("the second is one nearer", x.log(58, 2), second);
        x.undo();
        due("sixty still", x.count(12), 60);
        due("60", x.count(7), 60);
        // THE BOOK holds the latest 60, and what went out comes back
        for (int i = 0; i < 6; i++) {
            x.night(100 + i);
        }
        due("54", x.count(11), 54);
        int oldest = x.book(53, 0);
        x.night(1);
        due("sixty", x.count(11), 60);
        due("no more", x.book(60, 0), NONE);
        due("three of the oldest night left", x.book(57, 0), oldest);
        due("the oldest", x.book(59, 1), 3);
        x.undo();
        due("54 again", x.count(11), 54);
        due("the oldest again", x.book(53, 1), 0);
    }

    // 21
    private static void log() {
        GuiltySleep x = with(SURE, null, "001");
        due("none", x.log(0, 0), HIDDEN);
        x.night(1);
        x.judge(1);
        x.judge(0);
        int[][] want = {{0, 1, 2}, {1, 0, -1}};
        for (int i = 0; i < 2; i++) {
            for (int what = 0; what < 3; what++) {
                due("log " + i + " " + what, x.log(i, what), want[i][what]);
            }
        }
        due("no such", x.log(2, 0), HIDDEN);
        due("no such", x.log(-1, 0), HIDDEN);
        due("no such", x.log(0, 3), HIDDEN);
        due("no such", x.log(0, -1), HIDDEN);
        due("two", x.count(12), 2);
    }

    // 22
    private static void book() {
        GuiltySleep x = with("sh2;pg9c0w0t4;pc9w9", null, "10");
        due("none", x.book(0, 0), NONE);
        x.night(1);
        x.night(2);
        int[][] want = {{1, 1, 0, 0, 0}, {1, 0, 1, 1, 2}, {0, 1, 0, 0, 4}, {0, 0, 1, 1, 0}};
        for (int i = 0; i < 4; i++) {
            for (int what = 0; what < 5; what++) {
                due("book " + i + " " + what, x.book(i, what), want[i][what]);
            }
        }
        due("no such", x.book(4, 0), NONE);
        due("no such", x.book(-1, 0), NONE);
        due("no such", x.book(0, 5), NONE);
        due("no such", x.book(0, -1), NONE);
        due("four", x.count(11), 4);
    }

    // 23
    private static void points() {
        GuiltySleep x = with("sh3;pg9c0w0t2;pc9w9", "y:g=9?0;y:10;v:[h+1]*[t+a]-g+w", "010");
        due("none", x.points(0), 0);
        due("no such", x.points(2), HIDDEN);
        due("no such", x.points(-1), HIDDEN);
        x.night(1);
        // PERSON 0: HOUR 0: 1 * 2 - 9, HOUR 2: 3 * 2 - 9; PERSON 1: 2 * 1 + 9, held
        due("points", x.points(0), -7 - 3);
        due("points", x.points(1), 9);
        x.deed(0, -5);
        due("guilt as it is now", x.points(0), -2 + 2);
        x.worry(0, 2);
        due("worry as it is now", x.points(0), 4);
        due("tired as put down", x.person(0, 3), 0);
        x.law(NONE);
        due("without a law", x.points(0), 2);
        due("without a law", x.points(1), -1);
    }

    // 24
    private static void sleeps() {
        GuiltySleep x = Check.town(THREE);
        due("0", x.sleeps(0), 343000000);
        due("1", x.sleeps(1), 512000000);
        due("no such", x.sleeps(3), NONE);
        due("no such", x.sleeps(-1), NONE);
        x = Check.town(SURE);
        due("always", x.sleeps(0), 1000000000);
        due("never", x.sleeps(1), 0);
        x = with("sh9;p", "y:h", null);
        // nine hours: 10 9 8 7 6 5 4 3 2 tenths, each digit of the product stays
        due("nine hours", x.sleeps(0), 3628800);
        x.law(NONE);
        due("nine hours of 4", x.sleeps(0), 262144);
    }

    // 25
    private static void awake() {
        GuiltySleep x = Check.town(THREE);
        due("0 or more", x.awake(0, 0), 1000000000);
        due("1 or more", x.awake(0, 1), 657000000);
        due("2 or more", x.awake(0, 2), 27000000 + 189000000);
        due("3", x.awake(0, 3), 27000000);
        due("4", x.awake(0, 4), 0);
        due("9", x.awake(0, 9), 0);
        due("10", x.awake(0, 10), NONE);
        due("-1", x.awake(0, -1), NONE);
        due("no such", x.awake(3, 0), NONE);
        due("no such", x.awake(-1, 0), NONE);
        x = with("sh9;p", "y:5", null);
        due("nine of nine", x.awake(0, 9), 1953125);
        due("eight or more", x.awake(0, 8), 10 * 1953125);
        x = with("sh2;p", "y:h=0?10;y:3", null);
        due("one", x.awake(0, 1), 1000000000);
        due("two", x.awake(0, 2), 300000000);
    }

    // 26
    private static void seem() {
        GuiltySleep x = with(THREE, null, "00122");
        due("one lamp", x.seem(0, 0), 1);
        due("none", x.seem(1, 0), 0);
        due("beyond the hours", x.seem(2, 0), 0);
        due("no such", x.seem(3, 0), NONE);
        due("no such", x.seem(-1, 0), NONE);
        due("no such", x.seem(0, 1), NONE);
        due("no such", x.seem(0, NONE), NONE);
        // of one HOUR alone a LAMP does harm, and two are needed of the others
        x = with("sh4k3;p", "v:h=1?9*a;v:2-2*a", "0000");
        due("two lamps", x.seem(0, 0), 5);
        x = with("sh4k1;p", "v:h=1?0-a;v:1-a", "0000");
        due("three lamps", x.seem(0, 0), 7);
        x = with("sh3k1;p", "v:h=2?1-9*a;v:1-2*a", "000");
        due("one late lamp for two early ones", x.seem(0, 0), 4);
        x = with("sh2k1;p", "v:1", "0");
        due("there is none", x.seem(0, 0), NONE);
        // THE BOOK counts, TIRED as now, also for one that is GAOLED
        x = with("sh2k2;pg9c0w0t5", "y:0;v:t=5?2;v:1-2*a", "00");
        x.night(1);
        due("in the book", x.points(0), 4);
        due("more than two lamps can mend", x.seem(0, 0), NONE);
        x.judge(0);
        due("as if it was not gaoled", x.seem(0, 0), 1);
        x = with("sh1k2;pg9c0w0", null, "0");
        x.night(1);
        x.night(1);
        due("a lamp", x.seem(0, 0), 1);
        x.night(1);
        due("none helps", x.seem(0, 0), NONE);
    }

    // 27
    private static void tells() {
        GuiltySleep x = Check.town(THREE);
        due("hour", x.tells(0, 0), 0);
        due("by", x.tells(0, 1), 4);
        due("no guilt", x.tells(1, 1), 0);
        due("no guilt", x.tells(1, 0), 0);
        due("no such", x.tells(3, 0), NONE);
        due("no such", x.tells(-1, 0), NONE);
        due("no such", x.tells(0, 2), NONE);
        due("no such", x.tells(0, -1), NONE);
        x = with("sh5;pg2", "y:h=2?g+1;y:h=3?9-4*g;y:h=4?g*4;y:1", null);
        // 3 and 1, 1 and 9, 8 and 0: HOUR 3 is the earlier of two
        due("hour", x.tells(0, 0), 3);
        due("by", x.tells(0, 1), 8);
        x.coffee(0);
        // 4 and 10 are held, 10 and 3
        due("hour by coffee", x.tells(0, 0), 4);
        due("by coffee", x.tells(0, 1), 7);
    }

    // 28
    private static void lamp() {
        GuiltySleep x = Check.town(THREE);
        due("no such", x.lamp(3, 0, true), NONE);
        due("no such", x.lamp(-1, 0, true), NONE);
        due("no such", x.lamp(0, 3, true), NONE);
        due("no such", x.lamp(0, -1, true), NONE);
        for (int i = 1; i <= 12; i++) {
            due("lamp " + i, x.lamp(i % 3, i % 2, i > 6), i);
        }
        due("there are 12", x.lamp(0, 0, true), NONE);
        due("there are 12", x.count(10), 12);
        due("no act", x.count(13), 0);
        x.image();
        x.back();
        due("stay", x.count(10), 12);
        Check.text(x, 0, "p");
        due("gone with the town", x.count(10), 0);
        due("new", x.lamp(0, 5, false), 1);
    }

    // 29
    private static void who() {
        GuiltySleep x = Check.town(THREE);
        due("without lamps", x.who(5, 0), 0);
        due("a third", x.who(5, 1), 333);
        x.lamp(0, 1, true);
        due("who", x.who(5, 0), 1);
        due("7 of 16", x.who(5, 1), 437);
        due("x", x.who(0, 0), NONE);
        due("x", x.who(10, 0), NONE);
        due("no such", x.who(5, 3), NONE);
        due("no such", x.who(5, -1), NONE);
        x.lamp(1, 0, false);
        // 0: 2 * 8, 1: 7 * 10, 2: 7 * 8
        due("who", x.who(5, 0), 1);
        due("70 of 142", x.who(5, 1), 492);
        x.lamp(2, 2, false);
        // 2 * 8 * 7, 7 * 10 * 7, 7 * 8 * 10
        due("who", x.who(5, 0), 2);
        due("560 of 1162", x.who(5, 1), 481);
        x.coffee(2);
        // 2 * 8 * 4, 7 * 10 * 4, 7 * 8 * 9
        due("coffee", x.who(5, 0), 2);
        due("504 of 848", x.who(5, 1), 594);
        // 6 * 8 * 4, 7 * 9 * 4, 7 * 8 * 5
        due("280 of 724", x.who(1, 1), 386);
        x = with("sh1;p;p", "y:0", null);
        x.lamp(1, 0, true);
        due("nobody", x.who(3, 0), 0);
        due("nobody", x.who(3, 1), 0);
        due("nobody", x.who(3, 2), NONE);
        due("one alone", Check.town("p").who(1, 1), 1000);
        due("one alone", Check.town("p").who(1, 2), 0);
        due("eight alike", with("p;p;p;p;p;p;p;p", "y:9", null).who(1, 2), 0);
        due("eight alike", with("p;p;p;p;p;p;p;p", "y:9", null).who(1, 1), 125);
        // twelve of ten each
        x = with("sh1;p;p", "y:10", null);
        for (int i = 0; i < 12; i++) {
            x.lamp(0, 0, true);
        }
        due("half", x.who(9, 1), 500);
    }

    private static void ask() {
        GuiltySleep x = Check.town(THREE);
        due("0 alone below 5 by its own guilt", x.who(5, 2), 0);
        // only 1 is told apart by its own GUILT, in HOUR 2
        x = with("sh3;pc1;pc2;pc3", "y:c=2&h=2?9-2*g;y:9", null);
        due("one by one", x.who(3, 2), 12);
        due("x is too little", x.who(2, 2), 0);
        x = with("sh3;p;p;p", "y:h=3?9-2*g;y:9", null);
        due("no HOUR behind the last", x.who(3, 2), 0);
        // 0 is below 5 and HOUR 0 at 5 for all: in HOUR 1 one of three is told apart
        x = with("sh2;pc1;pc2;pc3", "y:c=1?4;y:h=0?5;y:5-g", null);
        due("1 and 2", x.who(1, 2), 11);
        x.lamp(1, 1, true);
        x.lamp(1, 1, true);
        due("1 can't be", x.who(5, 0), 0);
        due("0 and 2 may be it", x.who(5, 1), 500);
        // of 0 and 2: 1 asked in HOUR 1 wakes 5 by both, 2 asked wakes 5 by 0 and 0 by itself
        due("0 and 2", x.who(5, 2), 21);
    }

    // 30
    private static void timetable() {
        GuiltySleep x = Check.town(THREE);
        due("row", x.timetable(1, 0), 12);
        due("sum", x.timetable(1, 1), 22);
        due("row", x.timetable(2, 0), 11);
        due("sum", x.timetable(2, 1), 23);
        due("n", x.timetable(3, 0), NONE);
        due("n", x.timetable(0, 0), NONE);
        due("what", x.timetable(1, 2), NONE);
        due("what", x.timetable(1, -1), NONE);
        x = Check.town("sh3;p;p");
        due("too few", x.timetable(1, 0), NONE);
        due("too few", x.timetable(1, 1), NONE);
        due("twice each", x.timetable(2, 0), 1);
        // the best of each HOUR can't be had
        x = with("sh2;pc0;pc1", "y:c=0&h=0?0;y:c=0?1;y:h=0?1;y:9", null);
        due("1 first", x.timetable(1, 0), 10);
        due("sum", x.timetable(1, 1), 18);
        x = with("sh3k1;pc0w0;p;p;p", null, "0");
        x.night(1);
        due("gaoled", x.judge(0), 1);
        due("not him", x.timetable(1, 0) >= 123, true);
        due("all", x.timetable(2, 1), 3 * 10 - sumOfLeast(x));
        x = with("sh9;p;p;p;p;p;p;p;p", "y:5", null);
        due("nine and eight", x.timetable(1, 0), NONE);
        due("nine and sixteen", x.timetable(2, 0), 1122334);
        due("sum", x.timetable(2, 1), 45);
        x = with("sh8;pc0;pc1;pc2;pc3;pc4;pc5;pc6;pc7", "y:c+h=7?0;y:9", null);
        due("eight and eight", x.timetable(1, 0), 76543210);
        due("sum", x.timetable(1, 1), 80);
    }

    /** The least WAKES of three watched HOURS, two of one PERSON and one of another, by sorted rows. */
    private static int sumOfLeast(GuiltySleep x) {
        int[] wakes = {x.wakes(1, 0), x.wakes(2, 0), x.wakes(3, 0)};
        java.util.Arrays.sort(wakes);
        return 2 * wakes[0] + wakes[1];
    }

    // 31
    private static void couple() {
        GuiltySleep x = with(SURE, "y:0;v:g=9?3;v:0-3", "001");
        x.night(1);
        due("case", x.points(0), 6);
        due("case", x.points(1), -3);
        int[][] want = {{-3 + 1, 1}, {-3 - 4, 2}, {-3 + 2, -4}, {-3 - 4, -4}};
        for (int i = 0; i < 4; i++) {
            for (int what = 0; what < 2; what++) {
                due("couple(0, " + i / 2 + ", " + i % 2 + ", " + what, x.couple(0, i / 2, i % 2, what), want[i][what]);
                due("the other way", x.couple(1, i % 2, i / 2, 1 - what), want[i][what]);
            }
        }
        x.worry(0, 1);
        x = with("sh1;pm1;pm0", "y:0;v:5", "0");
        x.night(1);
        due("cut", x.couple(0, 0, 0, 0), -2 + 1);
        due("x", x.couple(0, 2, 0, 0), HIDDEN);
        due("x", x.couple(0, -1, 0, 0), HIDDEN);
        due("y", x.couple(0, 0, 2, 0), HIDDEN);
        due("y", x.couple(0, 0, -1, 0), HIDDEN);
        due("what", x.couple(0, 0, 0, 2), HIDDEN);
        due("what", x.couple(0, 0, 0, -1), HIDDEN);
        due("no such", x.couple(2, 0, 0, 0), HIDDEN);
        due("no such", x.couple(-1, 0, 0, 0), HIDDEN);
        due("not married", Check.town(THREE).couple(2, 0, 0, 0), HIDDEN);
    }

    // 32
    private static void rests() {
        GuiltySleep x = Check.town(THREE);
        due("how many", x.rests(0, NONE), 3);
        due("first", x.rests(0, 0), 1);
        due("second", x.rests(0, 1), 10);
        due("third", x.rests(1, 2), 11);
        due("no such", x.rests(0, 3), NONE);
        due("no such", x.rests(0, -2), NONE);
        due("not married", x.rests(2, NONE), NONE);
        due("not married", x.rests(2, 0), NONE);
        due("no such", x.rests(3, NONE), NONE);
        due("no such", x.rests(-1, 0), NONE);
    }

    // 33
    private static void candle() {
        GuiltySleep x = Check.town("sh4;p");
        due("two of four", x.candle(0, 2, NONE), 6);
        int[] rising = {3, 5, 6, 9, 10, 12};
        for (int i = 0; i < 6; i++) {
            due("set " + i, x.candle(0, 2, i), rising[i]);
        }
        due("no such", x.candle(0, 2, 6), NONE);
        due("no such", x.candle(0, 2, -2), NONE);
        due("none", x.candle(0, 0, NONE), 1);
        due("none", x.candle(0, 0, 0), 0);
        due("five of four", x.candle(0, 5, NONE), 0);
        due("nine", x.candle(0, 9, NONE), 0);
        due("ten", x.candle(0, 10, NONE), NONE);
        due("-1", x.candle(0, -1, NONE), NONE);
        due("no such", x.candle(1, 0, NONE), NONE);
        due("no such", x.candle(-1, 0, NONE), NONE);
        x.lamp(0, 1, true);
        x.lamp(0, 2, false);
        due("by lamps", x.candle(0, 2, NONE), 2);
        due("by lamps", x.candle(0, 2, 0), 3);
        due("by lamps", x.candle(0, 2, 1), 10);
        x.lamp(0, 1, false);
        due("against one another", x.candle(0, 2, NONE), 0);
        x = with("sh3;pg1;p", "y:h=0?10;y:h=1?0;y:5", null);
        x.lamp(1, 2, false);
        due("always and never", x.candle(0, 1, NONE), 1);
        due("always and never", x.candle(0, 1, 0), 1);
        due("always and never", x.candle(0, 2, 0), 5);
        due("three", x.candle(0, 3, NONE), 0);
        due("the other's lamp", x.candle(1, 2, NONE), 0);
        due("none", x.candle(0, 0, NONE), 0);
    }

    // 34
    private static void likeliest() {
        GuiltySleep x = with("sh4;p", "y:h=0?2;y:h=1?6;y:h=2?9;y:6", null);
        due("none", x.likeliest(0, 0), 0);
        due("one", x.likeliest(0, 1), 4);
        due("two, the least", x.likeliest(0, 2), 6);
        due("three", x.likeliest(0, 3), 14);
        due("four", x.likeliest(0, 4), 15);
        due("five", x.likeliest(0, 5), NONE);
        due("nine", x.likeliest(0, 9), NONE);
        due("ten", x.likeliest(0, 10), NONE);
        due("-1", x.likeliest(0, -1), NONE);
        due("no such", x.likeliest(1, 1), NONE);
        due("no such", x.likeliest(-1, 1), NONE);
        GuiltySleep y = with("sh3;p", "y:h=0?8;y:h=1?4;y:9", null);
        due("the dark ones count", y.likeliest(0, 1), 4);
        due("the dark ones count", y.likeliest(0, 2), 5);
        y = with("sh2;p", "y:h=0?9;y:8", null);
        // 9 * 2 against 1 * 8
        due("the dark ones count", y.likeliest(0, 1), 1);
        y = with("sh9;p", "y:h+1", null);
        due("nine HOURS", y.likeliest(0, 3), 448);
        due("nine HOURS", y.likeliest(0, 9), 511);
        x.lamp(0, 2, false);
        due("by lamps", x.likeliest(0, 2), 10);
        x.lamp(0, 0, true);
        due("by lamps", x.likeliest(0, 2), 3);
        x.lamp(0, 0, false);
        due("can't be", x.likeliest(0, 2), NONE);
    }

    // 35
    private static void wronged() {
        GuiltySleep x = with(SURE, "v:0-9", "00");
        Check.text(x, 1, "v:9");
        due("no book", x.wronged(NONE), 0);
        x.night(1);
        due("without: 0 is guilty", x.wronged(NONE), 0);
        due("by 0 not", x.wronged(0), 1);
        due("by 1", x.wronged(1), 0);
        due("no such", x.wronged(2), NONE);
        due("no such", x.wronged(-2), NONE);
        x.watch(NONE);
        Check.text(x, 2, "1");
        x.watch(1);
        x.night(1);
        due("1 is innocent", x.wronged(0), 1);
        due("by 1", x.wronged(1), 1);
        x.deed(1, 1);
        due("1 is not", x.wronged(0), 2);
        due("by 1", x.wronged(1), 0);
        due("no town", new GuiltySleep().wronged(NONE), NONE);
        due("changes nothing", x.count(7) + x.count(8), 0);
    }

    // 36
    private static void better() {
        GuiltySleep x = with(SURE, "v:0-9", "00");
        due("one law", x.better(), 0);
        Check.text(x, 1, "v:9");
        Check.text(x, 1, "v:8");
        due("all alike", x.better(), 0);
        x.night(1);
        due("the second", x.better(), 1);
        due("no law", Check.town("p").better(), NONE);
        GuiltySleep y = new GuiltySleep();
        Check.text(y, 1, "v:1");
        due("no town", y.better(), NONE);
    }

    // 37
    private static void most() {
        GuiltySleep x = Check.town("pt1c9;pt3c9;pt3c1w0;pt2c1w0");
        due("tired", x.most(0), 1);
        due("deep", x.most(1), 2);
        due("no such", x.most(2), NONE);
        due("no such", x.most(-1), NONE);
        due("no town", new GuiltySleep().most(0), NONE);
        due("no town", new GuiltySleep().most(1), NONE);
        due("all alike", Check.town("p;p").most(0), 0);
        due("all alike", Check.town("pc9w9;pc9w9").most(1), 0);
    }

    // 38
    private static void people() {
        GuiltySleep x = with("sh3k2;pg9c0w0;pc9w9;pg2c0w0", null, "001");
        due("free", x.people(0), 7);
        due("innocent", x.people(1), 2);
        due("suspects", x.people(2), 0);
        x.night(1);
        due("suspects", x.people(2), 1);
        x.judge(0);
        due("free", x.people(0), 6);
        due("innocent", x.people(1), 2);
        due("suspects", x.people(2), 0);
        due("no such", x.people(3), NONE);
        due("no such", x.people(-1), NONE);
        due("no town", new GuiltySleep().people(0), NONE);
        due("eight", Check.town("p;p;p;p;p;p;p;p").people(0), 255);
    }

    // 39
    private static void cries() {
        GuiltySleep x = Check.town(THREE);
        due("hour 0", x.cries(0), 8);
        due("hour 2", x.cries(2), 8);
        due("no such", x.cries(3), NONE);
        due("no such", x.cries(-1), NONE);
        due("no town", new GuiltySleep().cries(0), NONE);
        x = with("sh3;p;p", "y:h*2", null);
        due("hour 2", x.cries(2), 8);
        due("hour 1", x.cries(1), 4);
    }

    // 40
    private static void booked() {
        GuiltySleep x = with(SURE, null, "001");
        due("none", x.booked(0, 0), 0);
        due("lacks", x.booked(0, 1), 2);
        x.night(1);
        due("booked", x.booked(0, 0), 2);
        due("booked", x.booked(1, 0), 1);
        due("lacks none", x.booked(0, 1), 0);
        due("lacks", x.booked(1, 1), 3);
        due("no such", x.booked(0, 2), NONE);
        due("no such", x.booked(0, -1), NONE);
        due("no such", x.booked(2, 0), NONE);
        due("no such", x.booked(-1, 1), NONE);
        x = with("sh3k30;pt2", "y:0;v:h=0&t=2?1-a;v:9", "00");
        due("thirty", x.booked(0, 1), 30);
        x.night(1);
        due("points", x.points(0), 10);
        due("tired as now", x.booked(0, 1), 3);
        x = with("sh9k29;p;pc0w0", "y:0;v:h=8?0-9;v:h=0?1;v:0-9", "111111111");
        x.night(1);
        // it would take 100
        due("points", x.points(1), -71);
        due("not by 99", x.booked(1, 1), NONE);
        due("not by 99", with("sh1;p", "v:0", null).booked(0, 1), NONE);
        x = with("sh9k28;p;pc0w0", "y:0;v:h=8?0-9;v:h=0?1;v:0-9", "111111111");
        x.night(1);
        due("by 99", x.booked(1, 1), 99);
    }

    // 41
    private static void meet() {
        GuiltySleep x = Check.town(THREE);
        due("meet", x.meet(0, 1), 169416000);
        due("meet", x.meet(1, 0), 169416000);
        due("alike", x.meet(0, 0), NONE);
        due("no such", x.meet(0, 3), NONE);
        due("no such", x.meet(3, 0), NONE);
        due("no such", x.meet(-1, 0), NONE);
        due("always", Check.town("pc9w9;pc9w9").meet(0, 1), 1000000000);
        due("never", Check.town("pc9w9;pc0w0").meet(0, 1), 0);
        // 51 of 100 stay apart each HOUR: behind the fifth cuts begin
        x = with("sh9;p;p", "y:7", null);
        long left = 1000000000L;
        for (int i = 0; i < 9; i++) {
            left -= left * 49 / 100;
        }
        due("cut", x.meet(0, 1), 1000000000L - left);
    }

    // 42
    private static void needs() {
        GuiltySleep x = Check.town(THREE);
        due("3", x.needs(0, 0, 3), 1);
        due("10", x.needs(0, 0, 10), 8);
        due("0", x.needs(1, 0, 0), 0);
        due("none", x.needs(0, 2, 2), 0);
        due("hour", x.needs(0, 3, 1), NONE);
        due("hour", x.needs(0, -1, 1), NONE);
        due("v", x.needs(0, 0, 11), NONE);
        due("v", x.needs(0, 0, -1), NONE);
        due("no such", x.needs(3, 0, 1), NONE);
        due("no such", x.needs(-1, 0, 1), NONE);
        due("nine", Check.town("pg9c5").needs(0, 0, 5), 9);
        due("not with nine", Check.town("pg9c5").needs(0, 0, 6), NONE);
        x = Check.town("pg9c5");
        x.coffee(0);
        due("coffee", x.needs(0, 0, 6), 7);
        x = with("sh2;p", "y:h=1?w*2;y:w", null);
        due("by the hour", x.needs(0, 1, 5), 3);
        due("worry is as it was", x.person(0, 2), 1);
    }

    // 43
    private static void line() {
        due("no town", new GuiltySleep().line(), NONE);
        due("one", Check.town("p").line(), 0);
        due("eight", Check.town("p;p;p;p;p;p;p;p").line(), 1234567);
        GuiltySleep x = with("sh4;p;pg1;pg2;pg3", "v:g=2?5;v:g=3?0-1;v:g=1?5;v:0", "0123");
        due("none yet", x.line(), 123);
        x.night(1);
        due("line", x.line(), 1203);
    }

    // 44
    private static void image() {
        due("no town", new GuiltySleep().image(), NONE);
        GuiltySleep x = Check.town("p");
        due("night 0", x.image(), 0);
        x.night(1);
        due("night 1", x.image(), 1);
        x.night(1);
        due("the later one", x.back(), 1);
        due("no act", x.count(13), 0);
    }

    // 45
    private static void back() {
        GuiltySleep x = with(SURE, null, "001");
        due("no image", x.back(), NONE);
        x.deed(0, -1);
        x.worry(0, 4);
        x.night(1);
        x.judge(1);
        x.coffee(0);
        x.forge(1);
        int[] before = all(x);
        due("image", x.image(), 1);
        due("acts stay", x.count(13), 6);
        due("undone", x.undo(), 5);
        x.night(2);
        x.judge(0);
        x.deed(1, 4);
        x.worry(1, 0);
        x.years(3, 9);
        x.lamp(0, 0, true);
        due("back", x.back(), 1);
        due("no act can be undone", x.undo(), NONE);
        due("no act can be undone", x.count(13), 0);
        due("lamps told stay", x.count(10), 1);
        int[] after = all(x);
        for (int i = 0; i < before.length; i++) {
            due("as it was, " + i, after[i], before[i]);
        }
        x.night(4);
        due("again", x.back(), 1);
        Check.text(x, 0, "p");
        due("no image of this town", x.back(), NONE);
    }

    private static int[] all(GuiltySleep x) {
        int[] row = new int[40];
        int at = 0;
        for (int person = 0; person < 2; person++) {
            for (int what = 0; what < 8; what++) {
                row[at++] = x.person(person, what);
            }
        }
        for (int what : new int[] {6, 7, 8, 11, 12}) {
            row[at++] = x.count(what);
        }
        for (int i = 0; i < 2; i++) {
            for (int what = 0; what < 5; what++) {
                row[at++] = x.book(i, what);
            }
        }
        for (int what = 0; what < 3; what++) {
            row[at++] = x.log(0, what);
        }
        return row;
    }

    // 46
    private static void count() {
        GuiltySleep x = with(SURE, "v:1", "001");
        x.crimes(7);
        x.night(1);
        x.judge(0);
        x.lamp(0, 0, true);
        Check.tape(x, "pgc");
        int[] want = {2, 1, 1, 3, 0, 0, 1, 1, 0, 7, 1, 1, 1, 2};
        for (int what = 0; what < want.length; what++) {
            due("count " + what, x.count(what), want[what]);
        }
        due("others", x.count(14), HIDDEN);
        due("others", x.count(-1), HIDDEN);
        due("others", x.count(Integer.MIN_VALUE), HIDDEN);
    }
}
