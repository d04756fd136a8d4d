/**
 * The edges of what holds, of NIGHTS, ACTS, THE BOOK, the LOG, YEARS and IMAGES (parts 2 and 4 of the document's
 * Terms, promises 6 to 22 and 44 to 46): one method a sentence that names a bound.
 */
public final class ActEdgesTest {
    private static final int NONE = -1;
    private static final int HIDDEN = -1000000;

    public static void main(String[] args) {
        rulesAndPeople();
        lawThatHolds();
        watchThatHolds();
        watchedHours();
        crimesBounds();
        wakesWithoutLaw();
        wakesByLaw();
        wakesWithCoffee();
        lettersOfTheLaw();
        pointsHeld();
        pointsWithoutLaw();
        nightsUpTo999();
        drawBelowWakes();
        drawsGoRound();
        gaoledOnesDrawToo();
        gaoledOnesAreNotPutDown();
        lampAwakeOrForged();
        tiredAheadOfTheNight();
        tiredNineAtMost();
        behindTheNight();
        bookOfSixty();
        bookOfSixtyWithinANight();
        guiltyNoLess();
        deeds();
        coffeeOnce();
        forgedOnce();
        worries();
        judgedRightOrWrong();
        judgedAllEight();
        judgedIfInTheBook();
        judgedHoursLeave();
        caseAsItIsNow();
        fortyActs();
        actsGoRound();
        eachKindIsOneAct();
        whatIsNoAct();
        undoneLog();
        undoneBook();
        undoneYears();
        logOfSixty();
        logOfLargestCases();
        yearsBounds();
        yearsUpTo999();
        yearsByCrimes();
        yearsGuiltNineAtMost();
        yearsDrawsGoOn();
        imageInsteadOfTheOneAhead();
        backAgainAndAgain();
        backForgetsActs();
        backOfAllThatIsKept();
        backLeavesTheRest();
        backFrom999();
        counts();
        Check.end("ActEdgesTest");
    }

    private static void due(String what, long got, long want) {
        Check.due(what, got, want);
    }

    private static void due(String what, boolean got, boolean want) {
        Check.due(what, got, want);
    }

    private static GuiltySleep with(String town, String law, String watch) {
        return Check.with(town, law, watch);
    }

    // ---- promises 6 to 12

    private static void rulesAndPeople() {
        GuiltySleep x = new GuiltySleep();
        due("no town", x.rule(0), NONE);
        Check.refusedPerson(x, 0, 0);
        x = Check.town("sh2k5c7;pg1c2w3t4m1;pm0");
        int[] rules = {NONE, 2, 5, 7, NONE};
        for (int what = -1; what <= 3; what++) {
            due("rule " + what, x.rule(what), rules[what + 1]);
        }
        int[] want = {1, 2, 3, 4, 1, 0, 0, 0};
        for (int what = 0; what < 8; what++) {
            due("person's " + what, x.person(0, what), want[what]);
        }
        Check.refusedPerson(x, 0, -1);
        Check.refusedPerson(x, 0, 8);
        Check.refusedPerson(x, -1, 0);
        Check.refusedPerson(x, 2, 0);
        Check.refusedPerson(x, 2, 8);
        due("married to the first", x.person(1, 4), 0);
        due("the last what of the last", x.person(1, 7), 0);
    }

    /** "The LAW that holds (NONE: none). False: no such one." */
    private static void lawThatHolds() {
        GuiltySleep x = Check.town("p");
        due("none at first", x.count(4), NONE);
        due("0 of none", x.law(0), false);
        due("NONE of none", x.law(NONE), true);
        for (int many = 1; many <= 4; many++) {
            Check.text(x, 1, "y:" + many);
            due("a new one does not hold", x.count(4), NONE);
            for (int law = 0; law <= 4; law++) {
                due("law " + law + " of " + many, x.law(law), law < many);
                due("holds", x.count(4), Math.min(law, many - 1));
            }
            due("-2", x.law(-2), false);
            due("still", x.count(4), many - 1);
            due("NONE", x.law(NONE), true);
            due("holds", x.count(4), NONE);
        }
        due("without a town", new GuiltySleep().law(NONE), true);
    }

    private static void watchThatHolds() {
        GuiltySleep x = Check.town("p");
        due("none at first", x.count(5), NONE);
        due("0 of none", x.watch(0), false);
        due("NONE of none", x.watch(NONE), true);
        for (int many = 1; many <= 4; many++) {
            Check.text(x, 2, "" + many);
            due("a new one does not hold", x.count(5), NONE);
            for (int watch = 0; watch <= 4; watch++) {
                due("watch " + watch + " of " + many, x.watch(watch), watch < many);
                due("holds", x.count(5), Math.min(watch, many - 1));
            }
            due("-2", x.watch(-2), false);
            due("still", x.count(5), many - 1);
            due("NONE", x.watch(NONE), true);
            due("holds", x.count(5), NONE);
        }
    }

    /** "who is watched in an HOUR (0 .. 8; as told; NONE: nobody). HIDDEN: no such ones." */
    private static void watchedHours() {
        GuiltySleep x = Check.town("sh1;p");
        Check.text(x, 2, "8");
        Check.text(x, 2, "987654321");
        int[] want = {NONE, 8, 7, 6, 5, 4, 3, 2, 1};
        for (int hour = 0; hour < 9; hour++) {
            due("as told in " + hour, x.watched(1, hour), want[hour]);
            due("not told in " + hour, x.watched(0, hour), hour == 0 ? 8 : NONE);
        }
        due("hour 9", x.watched(1, 9), HIDDEN);
        due("hour -1", x.watched(1, -1), HIDDEN);
        due("watch 2", x.watched(2, 0), HIDDEN);
        due("watch -1", x.watched(-1, 0), HIDDEN);
        x.watch(1);
        due("NONE is none also if one holds", x.watched(NONE, 0), HIDDEN);
    }

    /** "CRIMES (0 .. 9). False: out of bounds, it is so." */
    private static void crimesBounds() {
        GuiltySleep x = new GuiltySleep();
        due("0 at first", x.count(9), 0);
        for (int v = -2; v <= 11; v++) {
            boolean taken = v >= 1 && v <= 9;
            int was = x.count(9);
            due("crimes " + v, x.crimes(v), taken);
            due("are", x.count(9), taken ? v : was);
            due("it is so", x.crimes(x.count(9)), false);
        }
        due("0", x.crimes(0), true);
        due("are 0", x.count(9), 0);
    }

    private static void wakes(String town, int want) {
        due("wakes of " + town, Check.town(town).wakes(0, 0), want);
    }

    /** "CONSCIENCE and WORRY, less GUILT and TIRED .. all held within 0 .. 10" */
    private static void wakesWithoutLaw() {
        wakes("pc0w0g9t9", 0);
        wakes("pc0w0g1t0", 0);
        wakes("pc0w0g0t1", 0);
        wakes("pc0w0g0t0", 0);
        wakes("pc9w9g9t9", 0);
        wakes("pc1w0g0t0", 1);
        wakes("pc0w1g0t0", 1);
        wakes("pc9w0g0t0", 9);
        wakes("pc5w5g0t0", 10);
        wakes("pc9w9g9t0", 9);
        wakes("pc9w9g8t0", 10);
        wakes("pc9w9g7t0", 10);
        wakes("pc9w9g0t8", 10);
        wakes("pc9w9g0t9", 9);
        wakes("pc9w9g0t0", 10);
        GuiltySleep x = Check.town("sh9;p");
        due("the first hour", x.wakes(0, 0), 6);
        due("the last hour", x.wakes(0, 8), 6);
        due("behind it", x.wakes(0, 9), NONE);
        due("ahead", x.wakes(0, -1), NONE);
        x = Check.town("sh1;p;p");
        due("one hour", x.wakes(1, 0), 6);
        due("no second", x.wakes(1, 1), NONE);
        due("no third person", x.wakes(2, 0), NONE);
    }

    private static void wakesByLaw() {
        for (int v = -3; v <= 13; v++) {
            String sum = v < 0 ? "0-" + -v : "" + v;
            due("by " + sum, with("pc9w9", "y:" + sum, null).wakes(0, 0), Math.max(0, Math.min(10, v)));
        }
        due("most", with("p", "y:9999*9999", null).wakes(0, 0), 10);
        due("least", with("p", "y:0-9999*9999", null).wakes(0, 0), 0);
    }

    /** "and as much as COFFEE wakes, if it drank some, all held": held once, behind both */
    private static void wakesWithCoffee() {
        for (int coffee = 0; coffee <= 9; coffee++) {
            for (int v = -11; v <= 12; v++) {
                String sum = v < 0 ? "0-" + -v : "" + v;
                GuiltySleep x = with("sc" + coffee + ";p", "y:" + sum, null);
                x.coffee(0);
                due(sum + " and coffee " + coffee, x.wakes(0, 0), Math.max(0, Math.min(10, v + coffee)));
            }
        }
        GuiltySleep x = Check.town("sc3;pc0w0g1;p");
        x.coffee(0);
        due("-1 and 3", x.wakes(0, 0), 2);
        due("the other did not drink", x.wakes(1, 0), 6);
        x = with("sc9;p", "y:9999*9999", null);
        x.coffee(0);
        due("a million and 9", x.wakes(0, 0), 10);
    }

    /** "Letters: g GUILT, c CONSCIENCE, w WORRY, t TIRED, h the HOUR, a 0 (for v: 1, if its LAMP was lit, else 0)" */
    private static void lettersOfTheLaw() {
        String[] letters = {"g", "c", "w", "t"};
        for (int i = 0; i < 4; i++) {
            for (int v = 0; v <= 9; v++) {
                String town = "sh9;pg1c1w1t1".replace(letters[i] + "1", letters[i] + v);
                GuiltySleep x = with(town, "y:" + letters[i] + ";v:" + letters[i], "0");
                due(letters[i] + " of " + town, x.wakes(0, 0), v);
                x.night(1);
                due(letters[i] + " of " + town + " for v", x.points(0), v);
            }
        }
        GuiltySleep x = with("sh9;p", "y:h+a;v:h", "999999990");
        for (int hour = 0; hour < 9; hour++) {
            due("h in " + hour, x.wakes(0, hour), hour);
        }
        x.night(1);
        due("h for v", x.points(0), 8);
        x = with("sh1;p", "y:10;v:2+3*a", "0");
        x.night(1);
        due("lit", x.points(0), 5);
        due("a is 0 for y", with("sh1;p", "y:2+3*a;v:1", null).wakes(0, 0), 2);
        x = with("sh1;p", "y:0;v:2+3*a", "0");
        x.night(1);
        due("not lit", x.points(0), 2);
    }

    /** "POINTS of a watched HOUR: WORTH for v, held within -9 .. 9" */
    private static void pointsHeld() {
        for (int v = -12; v <= 12; v++) {
            String sum = v < 0 ? "0-" + -v : "" + v;
            GuiltySleep x = with("sh1;p", "v:" + sum, "0");
            x.night(1);
            due("points by " + sum, x.points(0), Math.max(-9, Math.min(9, v)));
            x.night(1);
            due("of two hours", x.points(0), 2 * Math.max(-9, Math.min(9, v)));
        }
        GuiltySleep x = with("sh2;p", "v:h=0?9999;v:0-1", "00");
        x.night(1);
        due("each HOUR is held, not all together", x.points(0), 8);
    }

    /** "(without a LAW: 1, if no LAMP was lit, else -1)" */
    private static void pointsWithoutLaw() {
        GuiltySleep x = with("sh1;pc0w0;pc9w9", null, "0");
        due("nothing in the book", x.points(0), 0);
        x.night(1);
        due("not lit", x.points(0), 1);
        due("not watched", x.points(1), 0);
        x = with("sh1;pc0w0;pc9w9", null, "1");
        x.night(1);
        due("lit", x.points(1), -1);
        x = with("sh1;pc0w0", null, "0");
        x.forge(0);
        x.night(1);
        due("forged", x.points(0), -1);
        due("no such", x.points(1), HIDDEN);
        due("no such", x.points(-1), HIDDEN);
    }

    // ---- NIGHTS

    private static GuiltySleep nearTheEnd(String town, String watch, int night) {
        GuiltySleep x = with(town, null, watch);
        for (int now = 0; now < night; now += Math.min(30, night - now)) {
            x.years(Math.min(30, night - now), now);
        }
        due("the night", x.count(6), night);
        return x;
    }

    /** "A NIGHT by a seed (0 at first; 999 at most: none goes by then)" */
    private static void nightsUpTo999() {
        GuiltySleep x = Check.town("sh1;p");
        due("0 at first", x.count(6), 0);
        due("the first", x.night(1), 1);
        due("the second", x.night(1), 2);
        due("no town", new GuiltySleep().night(1), NONE);
        x = nearTheEnd("sh1;p", "0", 997);
        due("998", x.night(1), 998);
        due("999", x.night(1), 999);
        due("is put down as 998", x.book(0, 0), 998);
        due("beyond", x.night(1), NONE);
        due("still 999", x.count(6), 999);
        due("no more is put down", x.book(0, 0), 998);
        due("40 acts", x.count(13), 40);
        due("undone", x.undo(), 39);
        due("998 again", x.count(6), 998);
        due("999 again", x.night(2), 999);
    }

    /** "a draw of 10 below WAKES: AWAKE" */
    private static void drawBelowWakes() {
        int seen = 0;
        for (int seed = 0; seed < 60; seed++) {
            int draw = new Draws(seed).of(10);
            seen |= 1 << draw;
            for (int wakes = 0; wakes <= 10; wakes++) {
                GuiltySleep x = with("sh1;p", "y:" + wakes, "0");
                x.night(seed);
                due("draw " + draw + " wakes " + wakes, x.person(0, 3), draw < wakes ? 1 : 0);
                due("its lamp", x.book(0, 3), draw < wakes ? 1 : 0);
            }
        }
        due("all draws were seen", seen, 1023);
    }

    /** "(64 bits, going round); .. (x shifted right by 33, without sign) modulo j" */
    private static void drawsGoRound() {
        long[] seeds = {0, 1, -1, 2, -2, Long.MAX_VALUE, Long.MIN_VALUE, Long.MAX_VALUE - 1, Long.MIN_VALUE + 1, 1L << 33,
            1L << 32, (1L << 33) - 1, -(1L << 33), 0x5555555555555555L, 0xAAAAAAAAAAAAAAAAL};
        for (long seed : seeds) {
            GuiltySleep x = with("sh9;p;p", "y:5", "010101010");
            x.night(seed);
            Draws draws = new Draws(seed);
            int[] awake = new int[2];
            for (int hour = 0; hour < 9; hour++) {
                int[] up = {draws.of(10) < 5 ? 1 : 0, draws.of(10) < 5 ? 1 : 0};
                awake[0] += up[0];
                awake[1] += up[1];
                due("lamp in " + hour + " by " + seed, x.book(8 - hour, 3), up[hour % 2]);
            }
            due("0 by " + seed, x.person(0, 3), awake[0]);
            due("1 by " + seed, x.person(1, 3), awake[1]);
        }
        // reckoned apart: by 0 the first x is 1442695040888963407, shifted by 33 it is 167951807
        GuiltySleep x = with("sh1;p", "y:7", "0");
        x.night(0);
        due("7 is not below 7", x.person(0, 3), 0);
        x = with("sh1;p", "y:8", "0");
        x.night(0);
        due("7 is below 8", x.person(0, 3), 1);
    }

    /** "PERSON by PERSON (also GAOLED ones)" */
    private static void gaoledOnesDrawToo() {
        for (int seed = 0; seed < 20; seed++) {
            GuiltySleep x = with("sh1k1c9;pc0w0;pc5w0", null, "0");
            x.night(3);
            due("gaoled", x.judge(0), 1);
            // as much WORRY as it is TIRED: it wakes 5
            x.worry(1, x.person(1, 3));
            x.coffee(0);
            Draws draws = new Draws(seed);
            int[] want = {draws.of(10) < 9 ? 1 : 0, draws.of(10) < 5 ? 1 : 0};
            x.night(seed);
            due("the gaoled one by " + seed, x.person(0, 3), want[0]);
            due("the one behind it by " + seed, x.person(1, 3), want[1]);
            due("its coffee is drunk", x.person(0, 5), 0);
        }
    }

    /** "Each HOUR in which a PERSON that is not GAOLED is watched .. is put into THE BOOK" */
    private static void gaoledOnesAreNotPutDown() {
        GuiltySleep x = with("sh2k1;pc0w0;p", null, "01");
        x.night(1);
        due("two", x.count(11), 2);
        due("gaoled", x.judge(0), 1);
        due("one", x.count(11), 1);
        x.night(1);
        due("one more, not two", x.count(11), 2);
        due("of the other", x.booked(0, 0), 0);
        x.undo();
        x.undo();
        x.night(1);
        due("not gaoled any longer", x.count(11), 4);
        x.watch(NONE);
        x.night(1);
        due("no watch holds", x.count(11), 4);
    }

    /** "Its LAMP is lit, if it is AWAKE or FORGED one" */
    private static void lampAwakeOrForged() {
        for (int mix = 0; mix < 4; mix++) {
            boolean awake = (mix & 1) == 1;
            boolean forged = (mix & 2) == 2;
            GuiltySleep x = with("sh3;p", awake ? "y:10" : "y:0", "000");
            if (forged) {
                x.forge(0);
            }
            x.night(1);
            for (int i = 0; i < 3; i++) {
                due("lit", x.book(i, 3), awake || forged ? 1 : 0);
            }
            due("awake by no forged lamp", x.person(0, 3), awake ? 3 : 0);
            x.night(1);
            due("no longer forged", x.book(0, 3), awake ? 1 : 0);
        }
    }

    /** "TIRED ahead of the NIGHT" */
    private static void tiredAheadOfTheNight() {
        GuiltySleep x = with("sh2;pt9", "y:10", "00");
        x.night(1);
        due("hour 1", x.book(0, 4), 9);
        due("hour 0", x.book(1, 4), 9);
        x.night(1);
        due("hour 1", x.book(0, 4), 2);
        due("as it was", x.book(2, 4), 9);
        // WAKES of the later HOURS are by the same TIRED
        x = with("sh9;pt0", "y:10-t", "0");
        x.night(1);
        due("all nine", x.person(0, 3), 9);
    }

    /** "TIRED is how many HOURS each was AWAKE (9 at most)" */
    private static void tiredNineAtMost() {
        for (int hours = 1; hours <= 9; hours++) {
            GuiltySleep x = with("sh" + hours + ";pt5;pt5", "y:c=5&h<" + hours + "?10", null);
            x.night(1);
            due("awake in all " + hours, x.person(0, 3), hours);
            x.night(1);
            due("not more by a second night", x.person(0, 3), hours);
        }
        GuiltySleep x = with("sh9;pt5", "y:0", null);
        x.night(1);
        due("in none", x.person(0, 3), 0);
    }

    /** "Behind the NIGHT: .. all COFFEE is drunk, no LAMP is FORGED, the NIGHT is one later" */
    private static void behindTheNight() {
        GuiltySleep x = Check.town("sh1;p;p;p;p;p;p;p;p");
        for (int i = 0; i < 8; i++) {
            due("coffee", x.coffee(i), true);
            due("forge", x.forge(i), true);
        }
        due("one later", x.night(1), 1);
        for (int i = 0; i < 8; i++) {
            due("drunk", x.person(i, 5), 0);
            due("not forged", x.person(i, 6), 0);
            due("again", x.coffee(i), true);
            due("again", x.forge(i), true);
        }
        x.years(1, 1);
        due("drunk by a year", x.person(7, 5) + x.person(7, 6), 0);
    }

    // ---- THE BOOK

    /** "(the latest 60)" */
    private static void bookOfSixty() {
        GuiltySleep x = with("sh1;p", "y:0;v:1", "0");
        due("empty", x.book(0, 0), NONE);
        for (int many = 1; many <= 63; many++) {
            x.night(many);
            int length = Math.min(many, 60);
            due("length", x.count(11), length);
            due("latest", x.book(0, 0), many - 1);
            due("oldest", x.book(length - 1, 0), many - length);
            due("behind the oldest", x.book(length, 0), NONE);
            due("case", x.points(0), length);
            due("booked", x.booked(0, 0), length);
        }
        int[] row = {62, 0, 0, 0, 0, NONE};
        for (int what = 0; what < 6; what++) {
            due("what " + what, x.book(0, what), row[what]);
        }
        due("what -1", x.book(0, -1), NONE);
        due("i -1", x.book(-1, 0), NONE);
    }

    private static void bookOfSixtyWithinANight() {
        GuiltySleep x = with("sh9;p;p", null, "000000001");
        Check.nights(x, 6);
        due("54", x.count(11), 54);
        due("the oldest", x.book(53, 0) * 10 + x.book(53, 1), 0);
        x.night(1);
        due("60", x.count(11), 60);
        due("the oldest is of hour 3", x.book(59, 0) * 10 + x.book(59, 1), 3);
        due("the latest", x.book(0, 0) * 10 + x.book(0, 1), 68);
        due("of the other", x.book(0, 2), 1);
        due("of both", x.booked(0, 0) * 100 + x.booked(1, 0), 5307);
        x.night(1);
        due("the oldest is of night 1", x.book(59, 0) * 10 + x.book(59, 1), 13);
        due("60", x.count(11), 60);
    }

    // ---- JUDGED

    /** "GUILTY: CASE no less than POINTS that make it so" */
    private static void guiltyNoLess() {
        for (int k = 1; k <= 30; k++) {
            GuiltySleep x = with("sh1k" + k + ";p", "y:0;v:1", "0");
            Check.nights(x, k - 1);
            due("one too few", x.people(2), 0);
            if (k > 1) {
                due("not gaoled by " + (k - 1), x.judge(0), 0);
                x.undo();
            }
            x.night(1);
            due("enough", x.people(2), 1);
            due("gaoled by " + k, x.judge(0), 1);
            x.undo();
            x.night(1);
            due("gaoled by " + (k + 1), x.judge(0), 1);
        }
    }

    /** "a DEED (GUILT 1 .. 9 more, 9 at most, or 1 .. 9 less, 0 at least; else it can't be)" */
    private static void deeds() {
        for (int guilt = 0; guilt <= 9; guilt++) {
            for (int n = -11; n <= 11; n++) {
                GuiltySleep x = Check.town("pg" + guilt);
                boolean taken = n != 0 && guilt + n >= 0 && guilt + n <= 9;
                due("deed " + n + " with " + guilt, x.deed(0, n), taken ? guilt + n : NONE);
                due("guilt", x.person(0, 0), taken ? guilt + n : guilt);
                due("acts", x.count(13), taken ? 1 : 0);
            }
        }
        GuiltySleep x = Check.town("pg5;pg5");
        due("the last person", x.deed(1, 1), 6);
        due("behind it", x.deed(2, 1), NONE);
        due("ahead", x.deed(-1, 1), NONE);
        due("the other's guilt", x.person(0, 0), 5);
    }

    /** "COFFEE (once ahead of a NIGHT)" */
    private static void coffeeOnce() {
        GuiltySleep x = Check.town("p;p");
        due("once", x.coffee(1), true);
        due("twice", x.coffee(1), false);
        due("drank", x.person(1, 5), 1);
        due("one act", x.count(13), 1);
        due("undone", x.undo(), 0);
        due("again", x.coffee(1), true);
        x.night(1);
        due("ahead of the next night", x.coffee(1), true);
        due("the other", x.coffee(0), true);
        due("nobody", x.coffee(2), false);
        due("nobody", x.coffee(-1), false);
    }

    /** "a LAMP is FORGED (once ahead of a NIGHT)" */
    private static void forgedOnce() {
        GuiltySleep x = Check.town("p;p");
        due("once", x.forge(1), true);
        due("twice", x.forge(1), false);
        due("forged", x.person(1, 6), 1);
        due("one act", x.count(13), 1);
        due("undone", x.undo(), 0);
        due("again", x.forge(1), true);
        x.night(1);
        due("ahead of the next night", x.forge(1), true);
        due("the other", x.forge(0), true);
        due("nobody", x.forge(2), false);
        due("nobody", x.forge(-1), false);
    }

    /** "WORRY is set (0 .. 9): what it was. NONE: no such PERSON, out of bounds, it is so." */
    private static void worries() {
        for (int was = 0; was <= 9; was++) {
            for (int v = -2; v <= 11; v++) {
                GuiltySleep x = Check.town("p;pw" + was);
                boolean taken = v >= 0 && v <= 9 && v != was;
                due("worry " + v + " for " + was, x.worry(1, v), taken ? was : NONE);
                due("is", x.person(1, 2), taken ? v : was);
                due("acts", x.count(13), taken ? 1 : 0);
            }
        }
        GuiltySleep x = Check.town("p;p");
        due("nobody", x.worry(2, 3), NONE);
        due("nobody", x.worry(-1, 3), NONE);
    }

    /** "GAOLED, if GUILTY (RIGHT, if it has GUILT and is GAOLED, or has none and is not; else WRONG)" */
    private static void judgedRightOrWrong() {
        for (int guilt = 0; guilt <= 9; guilt++) {
            for (int points = 0; points <= 1; points++) {
                GuiltySleep x = with("sh1k1;pg" + guilt, "v:" + points, "0");
                x.night(1);
                boolean right = guilt > 0 == points > 0;
                due("judged", x.judge(0), points);
                due("gaoled", x.person(0, 7), points);
                due("right", x.count(7), right ? 1 : 0);
                due("wrong", x.count(8), right ? 0 : 1);
                due("who", x.log(0, 0), 0);
                due("whether gaoled", x.log(0, 1), points);
                due("case", x.log(0, 2), points);
            }
        }
    }

    /** Eight of them: what is counted does not touch what the last one has. */
    private static void judgedAllEight() {
        GuiltySleep x = with("sh8k5;pg1;pg1;pg1;p;p;p;p;pg9t9", "y:0;v:c", "01234567");
        x.night(1);
        for (int i = 0; i < 8; i++) {
            due("judged", x.judge(i), 1);
        }
        due("right", x.count(7), 4);
        due("wrong", x.count(8), 4);
        due("log", x.count(12), 8);
        due("book", x.count(11), 0);
        due("night", x.count(6), 1);
        int[] last = {9, 5, 1, 0, NONE, 0, 0, 1};
        for (int what = 0; what < 8; what++) {
            due("the last one's " + what, x.person(7, what), last[what]);
        }
        x.undo();
        due("right", x.count(7), 3);
        due("wrong", x.count(8), 4);
        last[7] = 0;
        for (int what = 0; what < 8; what++) {
            due("the last one's " + what, x.person(7, what), last[what]);
        }
    }

    /** "if it is not GAOLED and in THE BOOK" */
    private static void judgedIfInTheBook() {
        GuiltySleep x = with("sh1k1;p;p", "v:c", "0");
        due("empty", x.judge(0), NONE);
        x.night(1);
        due("one hour", x.judge(0), 1);
        due("gaoled", x.judge(0), NONE);
        due("not watched", x.judge(1), NONE);
        due("behind the last", x.judge(2), NONE);
        due("ahead", x.judge(-1), NONE);
        due("two acts", x.count(13), 2);
        due("one judgement", x.count(12), 1);
        due("one judgement", x.count(7) + x.count(8), 1);
        x = with("sh1k30;p", "v:0", "0");
        x.night(1);
        due("not gaoled", x.judge(0), 0);
        due("no longer in the book", x.judge(0), NONE);
        x.night(1);
        due("in it again", x.judge(0), 0);
        due("two judgements", x.count(12), 2);
        // a CASE of 0 in THE BOOK is a CASE; also hours that were pushed out are gone
        x = with("sh9k1;p;p", null, "0");
        Check.text(x, 2, "111111111");
        x.night(1);
        x.watch(1);
        Check.nights(x, 6);
        due("still in", x.booked(0, 0), 1);
        x.night(1);
        due("pushed out", x.booked(0, 0), 0);
        due("not in the book", x.judge(0), NONE);
    }

    /** "its HOURS leave THE BOOK" */
    private static void judgedHoursLeave() {
        GuiltySleep x = with("sh5k30;p;p;p", "y:0;v:1", "01201");
        Check.nights(x, 2);
        due("ten", x.count(11), 10);
        due("judged", x.judge(1), 0);
        due("six", x.count(11), 6);
        int[][] left = {{1, 3, 0}, {1, 2, 2}, {1, 0, 0}, {0, 3, 0}, {0, 2, 2}, {0, 0, 0}};
        for (int i = 0; i < 6; i++) {
            for (int what = 0; what < 3; what++) {
                due("left " + i, x.book(i, what), left[i][what]);
            }
        }
        due("no seventh", x.book(6, 0), NONE);
        x.judge(0);
        x.judge(2);
        due("empty", x.count(11), 0);
        due("empty", x.book(0, 0), NONE);
        due("case", x.points(1), 0);
    }

    /** "by GUILT, CONSCIENCE, WORRY as they are now, TIRED, HOUR, LAMP as put down" */
    private static void caseAsItIsNow() {
        GuiltySleep x = with("sh2;pg1c2w3t4", "y:10;v:g", "90");
        String[] laws = {"v:w", "v:t", "v:h+a"};
        for (String law : laws) {
            Check.text(x, 1, law);
        }
        x.night(1);
        due("guilt", x.points(0), 1);
        x.deed(0, 8);
        due("guilt now", x.points(0), 9);
        x.law(1);
        x.worry(0, 0);
        due("worry now", x.points(0), 0);
        x.law(2);
        due("tired now", x.person(0, 3), 2);
        due("tired as put down", x.points(0), 4);
        x.law(3);
        due("hour and lamp as put down", x.points(0), 2);
        x.law(NONE);
        due("without", x.points(0), -1);
    }

    // ---- ACTS

    /** "the latest 40 can be UNDONE one by one"; "how many still can be. NONE: none." */
    private static void fortyActs() {
        for (int many : new int[] {0, 1, 39, 40, 41, 80, 85}) {
            GuiltySleep x = Check.town("pw0");
            for (int i = 1; i <= many; i++) {
                x.worry(0, i % 10);
            }
            int can = Math.min(many, 40);
            due("can be undone of " + many, x.count(13), can);
            for (int i = 1; i <= can; i++) {
                due("undo " + i + " of " + many, x.undo(), can - i);
                due("worry", x.person(0, 2), (many - i) % 10);
            }
            due("none", x.undo(), NONE);
            due("none", x.count(13), 0);
            due("the oldest stay", x.person(0, 2), (many - can) % 10);
        }
    }

    private static void actsGoRound() {
        GuiltySleep x = Check.town("pw0");
        int[] past = new int[300];
        int now = 0;
        for (int i = 0; i < 37; i++) {
            // five more, two back: the row of acts goes round
            for (int j = 1; j <= 5; j++) {
                now++;
                past[now] = (past[now - 1] + j) % 10;
                due("was", x.worry(0, past[now]), past[now - 1]);
            }
            x.undo();
            x.undo();
            now -= 2;
            due("is", x.person(0, 2), past[now]);
        }
        due("forty less two", x.count(13), 38);
    }

    /** "All these (but what holds) are ACTS" */
    private static void eachKindIsOneAct() {
        GuiltySleep x = with("sh1k1;pc0w0", null, "0");
        x.deed(0, 1);
        due("deed", x.count(13), 1);
        x.coffee(0);
        due("coffee", x.count(13), 2);
        x.forge(0);
        due("forge", x.count(13), 3);
        x.worry(0, 5);
        due("worry", x.count(13), 4);
        x.night(1);
        due("night", x.count(13), 5);
        x.judge(0);
        due("judge", x.count(13), 6);
        x.years(3, 1);
        due("three years", x.count(13), 9);
        for (int i = 8; i >= 6; i--) {
            due("a year", x.undo(), i);
            due("its night", x.count(6), i - 5);
        }
        due("judge", x.undo(), 5);
        due("night", x.undo(), 4);
        due("night 0", x.count(6), 0);
        due("forged again", x.person(0, 6), 1);
        due("drank again", x.person(0, 5), 1);
        due("worry", x.undo(), 3);
        due("worry 0", x.person(0, 2), 0);
        due("forge", x.undo(), 2);
        due("not forged", x.person(0, 6), 0);
        due("coffee", x.undo(), 1);
        due("did not drink", x.person(0, 5), 0);
        due("deed", x.undo(), 0);
        due("no guilt", x.person(0, 0), 0);
        due("none", x.undo(), NONE);
    }

    private static void whatIsNoAct() {
        GuiltySleep x = with("sh1;p", "y:1", "0");
        x.worry(0, 9);
        x.law(NONE);
        x.watch(NONE);
        x.crimes(5);
        x.lamp(0, 0, true);
        x.image();
        Check.text(x, 1, "y:2");
        Check.text(x, 2, "1");
        Check.tape(x, "p");
        due("one act", x.count(13), 1);
        due("undone", x.undo(), 0);
        due("no law holds", x.count(4), NONE);
        due("no watch holds", x.count(5), NONE);
        due("crimes", x.count(9), 5);
        due("lamps", x.count(10), 1);
        due("laws", x.count(1), 2);
        due("watches", x.count(2), 2);
        due("tape", x.count(3), 1);
        due("the image is of worry 9", x.back(), 0);
        due("the image is of worry 9", x.person(0, 2), 9);
    }

    /** "LOG .. (the latest 60; UNDONE, too)"; "(RIGHT and WRONG, THE BOOK, too)" */
    private static void undoneLog() {
        GuiltySleep x = with("sh1k30;pg1;p", "y:0;v:w", "0");
        Check.text(x, 2, "1");
        for (int i = 0; i < 61; i++) {
            x.watch(i % 2);
            x.worry(i % 2, i % 10);
            x.night(1);
            x.judge(i % 2);
        }
        due("sixty", x.count(12), 60);
        due("the oldest is the second", x.log(59, 0), 1);
        due("its case", x.log(59, 2), 1);
        due("right", x.count(7), 30);
        due("wrong", x.count(8), 31);
        due("the latest", x.log(0, 0) * 10 + x.log(0, 2), 0);
        x.undo();
        due("sixty still", x.count(12), 60);
        due("the first is back", x.log(59, 0), 0);
        due("its case", x.log(59, 2), 0);
        due("right", x.count(7), 30);
        due("wrong", x.count(8), 30);
        due("in the book again", x.count(11), 1);
        x.undo();
        due("the night is undone", x.count(11), 0);
        x.undo();
        x.undo();
        due("59", x.count(12), 59);
        due("no sixtieth", x.log(59, 0), HIDDEN);
        due("right", x.count(7), 29);
        due("wrong", x.count(8), 30);
    }

    private static void undoneBook() {
        GuiltySleep x = with("sh9k30;p;p", "y:0;v:0", "000000001");
        Check.nights(x, 7);
        due("sixty", x.count(11), 60);
        x.night(1);
        x.judge(0);
        due("of the other alone", x.count(11), 7);
        x.undo();
        due("sixty", x.count(11), 60);
        due("oldest", x.book(59, 0) * 10 + x.book(59, 1), 13);
        x.undo();
        due("sixty", x.count(11), 60);
        due("what went out is back", x.book(59, 0) * 10 + x.book(59, 1), 3);
        x.undo();
        due("54", x.count(11), 54);
        due("what went out is back", x.book(53, 0) * 10 + x.book(53, 1), 0);
    }

    /** "Each is one ACT" */
    private static void undoneYears() {
        GuiltySleep x = with("sh2;pg1;p;p", null, "01");
        x.crimes(9);
        x.years(30, 5);
        due("thirty", x.count(13), 30);
        for (int left = 29; left >= 0; left--) {
            due("undone", x.undo(), left);
            GuiltySleep y = with("sh2;pg1;p;p", null, "01");
            y.crimes(9);
            y.years(left, 5);
            for (int i = 0; i < 3; i++) {
                for (int what = 0; what < 4; what++) {
                    due("person " + i + " behind " + left, x.person(i, what), y.person(i, what));
                }
            }
            due("the book", x.count(11), y.count(11));
            due("the night", x.count(6), left);
        }
        x = Check.town("sh1;p");
        x.years(30, 1);
        x.years(11, 1);
        due("forty of 41", x.count(13), 40);
        for (int i = 0; i < 40; i++) {
            x.undo();
        }
        due("the first stays", x.count(6), 1);
        due("none", x.undo(), NONE);
    }

    // ---- the LOG

    private static void logOfSixty() {
        GuiltySleep x = with("sh1k30;p", "y:0;v:w", "0");
        due("empty", x.log(0, 0), HIDDEN);
        for (int many = 1; many <= 62; many++) {
            x.worry(0, many % 10);
            x.night(1);
            due("judged", x.judge(0), 0);
            int length = Math.min(many, 60);
            due("length", x.count(12), length);
            due("latest", x.log(0, 2), many % 10);
            due("oldest", x.log(length - 1, 2), (many - length + 1) % 10);
        }
        due("behind the oldest", x.log(60, 0), HIDDEN);
        due("i -1", x.log(-1, 0), HIDDEN);
        due("what -1", x.log(0, -1), HIDDEN);
        due("what 3", x.log(0, 3), HIDDEN);
        due("what 2", x.log(0, 2), 2);
        due("the case as it was", x.log(5, 2), 57 % 10);
    }

    private static void logOfLargestCases() {
        for (int sign = -1; sign <= 1; sign += 2) {
            GuiltySleep x = with("sh9k30;p;p;p;p;p;p;p;p", sign < 0 ? "v:0-9" : "v:9", "777777777");
            Check.nights(x, 7);
            due("case", x.points(7), sign * 540);
            due("judged", x.judge(7), sign < 0 ? 0 : 1);
            due("who", x.log(0, 0), 7);
            due("gaoled", x.log(0, 1), sign < 0 ? 0 : 1);
            due("case", x.log(0, 2), sign * 540);
        }
    }

    // ---- YEARS

    /** "n (1 .. 30)" */
    private static void yearsBounds() {
        for (int n = -2; n <= 33; n++) {
            GuiltySleep x = Check.town("sh1;p");
            boolean taken = n >= 1 && n <= 30;
            due("years " + n, x.years(n, 1), taken ? n : NONE);
            due("the night", x.count(6), taken ? n : 0);
            due("acts", x.count(13), taken ? n : 0);
        }
        due("no town", new GuiltySleep().years(1, 1), NONE);
    }

    /** "NONE: .. beyond 999": all of them or none */
    private static void yearsUpTo999() {
        for (int left = 0; left <= 30; left++) {
            GuiltySleep x = nearTheEnd("sh1;pw5", null, 999 - left);
            int worry = x.person(0, 2);
            for (int n = left + 1; n <= 31; n++) {
                due(n + " years with " + left + " left", x.years(n, 1), NONE);
            }
            due("still", x.count(6), 999 - left);
            due("still", x.person(0, 2), worry);
            if (left > 0) {
                due("as many as are left", x.years(left, 1), 999);
            }
            due("then none", x.years(1, 1), NONE);
            due("then none", x.night(1), NONE);
        }
    }

    /** "then a draw of 10 below CRIMES (0 .. 9; 0 at first): a draw of how many PERSONS there are: GUILT 3 more" */
    private static void yearsByCrimes() {
        int seen = 0;
        for (int seed = 0; seed < 60; seed++) {
            for (int crimes = 0; crimes <= 9; crimes++) {
                GuiltySleep x = with("sh1;p;p", "y:5", null);
                x.crimes(crimes);
                x.years(1, seed);
                Draws draws = new Draws(seed);
                int worried = draws.of(2);
                int worry = draws.of(10);
                int draw = draws.of(10);
                seen |= 1 << draw;
                int guilty = draw < crimes ? draws.of(2) : NONE;
                for (int i = 0; i < 2; i++) {
                    due("worry of " + i, x.person(i, 2), i == worried ? worry : 1);
                    due("guilt of " + i + " by draw " + draw + ", crimes " + crimes, x.person(i, 0), i == guilty ? 3 : 0);
                    due("draws go on", x.person(i, 3), draws.of(10) < 5 ? 1 : 0);
                }
            }
        }
        due("all draws were seen", seen, 1023);
    }

    /** "GUILT 3 more (9 at most)" */
    private static void yearsGuiltNineAtMost() {
        for (int guilt = 0; guilt <= 9; guilt++) {
            GuiltySleep x = Check.town("sh1;pg" + guilt);
            x.crimes(9);
            x.years(1, 1);
            Draws draws = new Draws(1);
            draws.of(1);
            draws.of(10);
            due("a crime", draws.of(10) < 9, true);
            due("guilt behind " + guilt, x.person(0, 0), Math.min(9, guilt + 3));
        }
    }

    /** "a draw of how many PERSONS there are, a draw of 10: its WORRY; .. then a NIGHT (draws go on)" */
    private static void yearsDrawsGoOn() {
        GuiltySleep x = with("sh9;p;p;p;p;p;p;p;p", "y:w", null);
        x.crimes(5);
        x.years(30, -1);
        Draws draws = new Draws(-1);
        int[] worry = {1, 1, 1, 1, 1, 1, 1, 1};
        int[] guilt = new int[8];
        int[] tired = new int[8];
        for (int year = 0; year < 30; year++) {
            int who = draws.of(8);
            worry[who] = draws.of(10);
            if (draws.of(10) < 5) {
                int bad = draws.of(8);
                guilt[bad] = Math.min(9, guilt[bad] + 3);
            }
            tired = new int[8];
            for (int hour = 0; hour < 9; hour++) {
                for (int i = 0; i < 8; i++) {
                    tired[i] += draws.of(10) < worry[i] ? 1 : 0;
                }
            }
        }
        for (int i = 0; i < 8; i++) {
            due("guilt", x.person(i, 0), guilt[i]);
            due("worry", x.person(i, 2), worry[i]);
            due("tired", x.person(i, 3), tired[i]);
        }
    }

    // ---- IMAGES

    /** "An IMAGE (instead of the one ahead): the NIGHT. NONE: no TOWN." */
    private static void imageInsteadOfTheOneAhead() {
        due("no town", new GuiltySleep().image(), NONE);
        GuiltySleep x = Check.town("pg0");
        due("night 0", x.image(), 0);
        x.deed(0, 1);
        x.night(1);
        due("night 1", x.image(), 1);
        x.deed(0, 1);
        x.night(1);
        due("the later one", x.back(), 1);
        due("of guilt 1", x.person(0, 0), 1);
        due("not the one ahead", x.back(), 1);
        due("of guilt 1", x.person(0, 0), 1);
    }

    /** "BACK: the NIGHT. NONE: no IMAGE of this TOWN." */
    private static void backAgainAndAgain() {
        GuiltySleep x = new GuiltySleep();
        due("no town", x.back(), NONE);
        Check.text(x, 0, "p");
        due("no image", x.back(), NONE);
        x.image();
        for (int i = 1; i <= 3; i++) {
            x.deed(0, i);
            x.night(i);
            due("back", x.back(), 0);
            due("guilt", x.person(0, 0), 0);
            due("night", x.count(6), 0);
        }
        due("a bad text", Check.text(x, 0, "q"), NONE);
        due("the image stays", x.back(), 0);
        Check.text(x, 1, "y:1");
        due("the image stays by a law", x.back(), 0);
        Check.text(x, 0, "p");
        due("not of this town", x.back(), NONE);
        due("of this one", x.image(), 0);
        due("of this one", x.back(), 0);
    }

    /** "(no ACT can be UNDONE then)" */
    private static void backForgetsActs() {
        GuiltySleep x = Check.town("pw0");
        x.worry(0, 1);
        x.image();
        due("an image forgets none", x.count(13), 1);
        x.worry(0, 2);
        due("two", x.count(13), 2);
        due("back", x.back(), 0);
        due("none", x.count(13), 0);
        due("none", x.undo(), NONE);
        due("as it was", x.person(0, 2), 1);
        x.worry(0, 3);
        due("one", x.undo(), 0);
        due("as it was", x.person(0, 2), 1);
        x.undo();
        due("back also if all was undone", x.back(), 0);
    }

    /** "An IMAGE keeps PERSONS (GUILT, WORRY, TIRED, COFFEE, FORGED, GAOLED), THE BOOK, the LOG, RIGHT, WRONG, the NIGHT" */
    private static void backOfAllThatIsKept() {
        GuiltySleep x = with("sh9k1;pg1;p;p;pg4;p;p;p;pg9t9", null, "777777776");
        x.forge(6);
        Check.nights(x, 8);
        for (int i = 0; i < 7; i++) {
            x.judge(6);
            x.judge(7);
            x.night(i);
        }
        for (int i = 0; i < 8; i++) {
            x.worry(i, i);
            x.forge(i / 2 * 2);
            x.coffee(i / 3 * 3);
        }
        int[] before = seen(x);
        int night = x.image();
        x.years(30, 1);
        for (int i = 0; i < 8; i++) {
            x.judge(i);
            x.deed(i, 1);
            x.worry(i, 9 - i);
        }
        due("back", x.back(), night);
        int[] after = seen(x);
        for (int i = 0; i < before.length; i++) {
            due("kept " + i, after[i], before[i]);
        }
    }

    private static int[] seen(GuiltySleep x) {
        int[] row = new int[160];
        int at = 0;
        for (int person = 0; person < 8; person++) {
            for (int what = 0; what < 8; what++) {
                row[at++] = x.person(person, what);
            }
        }
        for (int what : new int[] {6, 7, 8, 11, 12}) {
            row[at++] = x.count(what);
        }
        for (int i = 0; i < 10; i++) {
            for (int what = 0; what < 5; what++) {
                row[at++] = x.book(i, what);
            }
        }
        for (int i = 0; i < 10; i++) {
            for (int what = 0; what < 3; what++) {
                row[at++] = x.log(i, what);
            }
        }
        return row;
    }

    /** What an IMAGE does not keep is as it is. */
    private static void backLeavesTheRest() {
        GuiltySleep x = with("sh2;p", "y:1", "0");
        x.crimes(1);
        x.lamp(0, 0, true);
        x.image();
        Check.text(x, 1, "y:2");
        Check.text(x, 2, "1");
        x.law(1);
        x.watch(1);
        x.crimes(2);
        x.lamp(0, 1, false);
        Check.tape(x, "pp");
        due("back", x.back(), 0);
        int[] want = {1, 2, 2, 2, 1, 1, 0, 0, 0, 2, 2, 0, 0, 0};
        for (int what = 0; what < want.length; what++) {
            due("count " + what, x.count(what), want[what]);
        }
    }

    private static void backFrom999() {
        GuiltySleep x = nearTheEnd("sh1;p", null, 998);
        due("image", x.image(), 998);
        due("999", x.night(1), 999);
        due("beyond", x.night(1), NONE);
        due("image", x.back(), 998);
        due("999 again", x.night(1), 999);
        due("image of 999", x.image(), 999);
        due("back to 999", x.back(), 999);
        due("beyond", x.night(1), NONE);
        due("nothing to undo", x.undo(), NONE);
    }

    /** "HIDDEN for others" */
    private static void counts() {
        GuiltySleep x = new GuiltySleep();
        int[] none = {0, 0, 0, 0, NONE, NONE, 0, 0, 0, 0, 0, 0, 0, 0};
        for (int what = 0; what < 14; what++) {
            due("new " + what, x.count(what), none[what]);
        }
        due("-1", x.count(-1), HIDDEN);
        due("14", x.count(14), HIDDEN);
        due("15", x.count(15), HIDDEN);
        due("HIDDEN", x.count(HIDDEN), HIDDEN);
    }
}
