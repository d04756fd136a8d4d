/**
 * The edges of what TEXTS tell (part 1 of the document's Terms, promises 2 to 5): one method a sentence that
 * names a bound, with the last that is taken and the first that is refused.
 */
public final class TextEdgesTest {
    private static final int NONE = -1;
    private static final int HIDDEN = -1000000;
    private static final String EIGHT = "p;p;p;p;p;p;p;p";

    public static void main(String[] args) {
        oneRulesAtMost();
        oneToEightPeople();
        clausesInAnyOrder();
        itemsNoneOrMore();
        lettersOnceInAClause();
        lettersOfTheOtherKind();
        oneOrTwoDigits();
        boundsOfItems();
        valuesWithout();
        marriedNone();
        marriedBothWays();
        marriedWrongly();
        clausesOneAtLeast();
        lawBeginsWithYOrV();
        oneToFourDigits();
        atomsByEachByte();
        signsByEachByte();
        conditionBehindBangOrBracket();
        sixWithinOneAnother();
        manyBesideOneAnother();
        millionAbove();
        millionBelow();
        divisionCuts();
        divisionByNothing();
        worthWithout();
        refusedLawLeavesNothing();
        refusedTextsLeaveNothing();
        oneToNineDigits();
        watchNobody();
        watchByEachByte();
        blanksBetweenSigns();
        blanksNotInNumbers();
        blanksAreThirtyTwo();
        townBeginsByEachByte();
        townEndsTooEarly();
        lawEndsTooEarly();
        outOfBoundsAtLastDigit();
        thirdDigitItself();
        feedHighestFirst();
        feedLeavesOutNothings();
        feedUpTo240();
        endOfTape();
        faultLeavesTape();
        textEmptiesTape();
        fourLaws();
        fourWatches();
        townForgets();
        townOfEightThenOne();
        Check.end("TextEdgesTest");
    }

    private static void due(String what, long got, long want) {
        Check.due(what, got, want);
    }

    private static void due(String what, boolean got, boolean want) {
        Check.due(what, got, want);
    }

    private static void fault(int sort, String text, int want) {
        due("fault(" + sort + ") of '" + text + "'", Check.fault(text, sort), want);
    }

    private static void town(String text, int want) {
        fault(0, text, want);
        GuiltySleep x = new GuiltySleep();
        due("taken as a town: " + text, Check.text(x, 0, text) != NONE, want == NONE);
        due("the tape of " + text, x.count(3), want == NONE ? 0 : text.length());
    }

    private static void law(String text, int want) {
        fault(1, text, want);
        GuiltySleep x = new GuiltySleep();
        due("taken as a law: " + text, Check.text(x, 1, text), want == NONE ? 0 : NONE);
        due("laws behind " + text, x.count(1), want == NONE ? 1 : 0);
    }

    private static void watch(String text, int want) {
        fault(2, text, want);
        GuiltySleep x = new GuiltySleep();
        due("taken as a watch: " + text, Check.text(x, 2, text), want == NONE ? 0 : NONE);
        due("watches behind " + text, x.count(2), want == NONE ? 1 : 0);
    }

    // ---- a TOWN

    /** "s (its RULES; one at most)"; "a second s .. at it" */
    private static void oneRulesAtMost() {
        town("p", NONE);
        town("s;p", NONE);
        town("s;s", 2);
        town("s;s;p", 2);
        town("s;p;s", 4);
        town("p;s;s", 4);
        town("sh1;p;sk1", 6);
        town(" s ; s", 5);
        town("s;" + EIGHT + ";s", 18);
    }

    /** "p (a PERSON; 1 .. 8)"; "a ninth p .. at it"; "(the length, if it ends .. without a PERSON)" */
    private static void oneToEightPeople() {
        town("", 0);
        town("s", 1);
        town("sh3k2c1", 7);
        town("s  ", 3);
        StringBuilder people = new StringBuilder("p");
        for (int many = 1; many <= 8; many++) {
            GuiltySleep x = new GuiltySleep();
            due("as many as told", Check.text(x, 0, people.toString()), many);
            due("count", x.count(0), many);
            due("the last", x.wakes(many - 1, 0), 6);
            due("none behind the last", x.wakes(many, 0), NONE);
            people.append(";p");
        }
        town(EIGHT + ";p", 16);
        town(EIGHT + ";p;p", 16);
        town(EIGHT + " ; p", 18);
        town(EIGHT + ";s;p", 18);
        town("s;" + EIGHT + ";p", 18);
        town(EIGHT + ";s", NONE);
        town(EIGHT + ";", 16);
    }

    /** "in any order" */
    private static void clausesInAnyOrder() {
        for (int at = 0; at <= 8; at++) {
            StringBuilder text = new StringBuilder();
            for (int i = 0; i <= 8; i++) {
                text.append(i == 0 ? "" : ";").append(i == at ? "sh9" : "pg" + (i < at ? i : i - 1));
            }
            GuiltySleep x = Check.town(text.toString());
            due("hours of " + text, x.rule(0), 9);
            for (int person = 0; person < 8; person++) {
                due("person " + person + " of " + text, x.person(person, 0), person);
            }
        }
        GuiltySleep x = Check.town("sc1k2h3;pm8t1w2c3g4");
        due("items in any order", x.rule(0) * 100 + x.rule(1) * 10 + x.rule(2), 321);
        due("items in any order", x.person(0, 0) * 1000 + x.person(0, 1) * 100 + x.person(0, 2) * 10 + x.person(0, 3), 4321);
    }

    /** "then ITEMS, none or more" */
    private static void itemsNoneOrMore() {
        town("p", NONE);
        town("s;p", NONE);
        town("sh1k1c1;pg1c1w1t1m8", NONE);
        town("sh1k1c1h", 7);
        town("pg1c1w1t1m8g", 11);
        town("pg1c1w1t1m8x", 11);
        town("p1", 1);
        town("s1;p", 1);
    }

    /** "a letter, each once at most in a CLAUSE"; "a letter that was there" is the FAULT */
    private static void lettersOnceInAClause() {
        for (String letter : new String[] {"h", "k", "c"}) {
            town("s" + letter + "1" + letter + "1;p", 3);
            town("s" + letter + "1 " + letter + "1;p", 4);
        }
        town("sh1k1c1k1;p", 7);
        town("sh1k1h1;p", 5);
        town("sk1c1k1;p", 5);
        town("sc1h1c1;p", 5);
        town("pg1c1g1", 5);
        town("pc1w1c1", 5);
        town("pw1t1w1", 5);
        town("pt1m8t1", 5);
        town("pm8g1m8", 5);
        town("pg1c1w1t1g1", 9);
        for (String letter : new String[] {"g", "c", "w", "t", "m"}) {
            town("p" + letter + "8" + letter + "8", 3);
            town("p" + letter + "8;p" + letter + "8", NONE);
            town("p;p" + letter + "8" + letter + "8", 5);
        }
        town("pg1c1w1t1m8w1", 11);
        town("sc1;pc1", NONE);
    }

    /** Letters of the one kind of CLAUSE in the other. */
    private static void lettersOfTheOtherKind() {
        for (int b = 1; b < 256; b++) {
            char sign = (char) b;
            if (sign != ' ' && sign != ';') {
                town("p" + sign + "1", "gcwt".indexOf(sign) >= 0 ? NONE : sign == 'm' ? 3 : 1);
                town("s" + sign + "1;p", "hkc".indexOf(sign) >= 0 ? NONE : 1);
            }
        }
    }

    /** "and a number (one or two digits)" */
    private static void oneOrTwoDigits() {
        for (String letter : new String[] {"h", "k", "c"}) {
            town("s" + letter + ";p", 2);
            town("s" + letter + "1;p", NONE);
            town("s" + letter + "01;p", NONE);
            town("s" + letter + "001;p", 4);
        }
        for (String letter : new String[] {"g", "c", "w", "t", "m"}) {
            town("p" + letter, 2);
            town("p" + letter + "8", NONE);
            town("p" + letter + "08", NONE);
            town("p" + letter + "008", 4);
        }
        for (int b = 1; b < 256; b++) {
            char sign = (char) b;
            town("pg" + sign, sign >= '0' && sign <= '9' ? NONE : sign == ' ' ? 3 : 2);
        }
    }

    /** "h .. (1 .. 9 ..), k .. (1 .. 30 ..), c .. (0 .. 9 ..); of p: g .. (0 .. 9 ..) .." */
    private static void boundsOfItems() {
        String[] names = {"h", "k", "c"};
        int[] least = {1, 1, 0};
        int[] most = {9, 30, 9};
        for (int i = 0; i < 3; i++) {
            for (int v = 0; v < 100; v++) {
                boolean taken = v >= least[i] && v <= most[i];
                String head = "s" + names[i] + v;
                town(head + ";p", taken ? NONE : head.length() - 1);
                town("p;" + head, taken ? NONE : head.length() + 1);
                if (taken) {
                    due(head, Check.town("p;" + head).rule(i), v);
                }
            }
            town("s" + names[i] + "00;p", least[i] == 0 ? NONE : 3);
        }
        String[] items = {"g", "c", "w", "t"};
        for (int i = 0; i < 4; i++) {
            for (int v = 0; v < 100; v++) {
                String text = "p" + items[i] + v;
                town(text, v <= 9 ? NONE : 3);
                if (v <= 9) {
                    due(text, Check.town(text).person(0, i), v);
                    due(text + " as the last of eight", Check.town("p;p;p;p;p;p;p;" + text).person(7, i), v);
                }
            }
        }
        for (int v = 9; v < 100; v++) {
            town("pm" + v, v == 9 ? 2 : 3);
        }
    }

    /** "6 without", "4", "3"; of p "0", "5", "1", "0", "8" */
    private static void valuesWithout() {
        String[] texts = {"p", "s;p", "sh6k4c3;pg0c5w1t0m8"};
        int[] plain = {0, 5, 1, 0, NONE, 0, 0, 0};
        for (String text : texts) {
            GuiltySleep x = Check.town(text);
            due("hours of " + text, x.rule(0), 6);
            due("points of " + text, x.rule(1), 4);
            due("coffee of " + text, x.rule(2), 3);
            for (int what = 0; what < 8; what++) {
                due("person's " + what + " of " + text, x.person(0, what), plain[what]);
            }
        }
        // what one CLAUSE or TEXT told is not there in the next
        GuiltySleep x = Check.town("sh9k30c9;pg9c9w9t9m1;pm0");
        due("second person", x.person(1, 0) + x.person(1, 3), 0);
        due("second person", x.person(1, 1), 5);
        Check.text(x, 0, "p;p");
        for (int what = 0; what < 8; what++) {
            due("in the next town " + what, x.person(0, what), plain[what]);
        }
        due("hours of the next town", x.rule(0), 6);
        due("points of the next town", x.rule(1), 4);
        due("coffee of the next town", x.rule(2), 3);
    }

    /** "m the one it is MARRIED to (0 .. 8; 8: none; 8)" */
    private static void marriedNone() {
        due("8", Check.town("pm8").person(0, 4), NONE);
        due("08", Check.town("pm08").person(0, 4), NONE);
        due("without", Check.town("p").person(0, 4), NONE);
        due("8 of eight", Check.town("p;p;p;p;p;p;p;pm8").person(7, 4), NONE);
        due("no couple", Check.town("pm8").couple(0, 0, 0, 0), HIDDEN);
    }

    private static String eightWith(int one, int ones, int other, int others) {
        StringBuilder text = new StringBuilder();
        for (int i = 0; i < 8; i++) {
            text.append(i == 0 ? "p" : ";p");
            text.append(i == one ? "m" + ones : i == other ? "m" + others : "");
        }
        return text.toString();
    }

    private static void marriedBothWays() {
        for (int one = 0; one < 8; one++) {
            for (int other = 0; other < 8; other++) {
                if (one != other) {
                    GuiltySleep x = Check.town(eightWith(one, other, other, one));
                    due("one", x.person(one, 4), other);
                    due("other", x.person(other, 4), one);
                    due("a couple", x.rests(one, NONE), 3);
                }
            }
        }
        town("pm7;pm6;pm5;pm4;pm3;pm2;pm1;pm0", NONE);
    }

    /** "(the length, if it ends .. with one MARRIED to itself, to one that is not told, or to one that is not MARRIED to it)" */
    private static void marriedWrongly() {
        for (int one = 0; one < 8; one++) {
            String itself = eightWith(one, one, 8, 8);
            town(itself, itself.length());
            for (int other = 0; other < 8; other++) {
                if (one != other) {
                    String alone = eightWith(one, other, 8, 8);
                    town(alone, alone.length());
                    String elsewhere = eightWith(one, other, other, 7 - one == other ? one ^ 1 : 7 - one);
                    if (elsewhere.indexOf("m" + one) < 0) {
                        town(elsewhere, elsewhere.length());
                    }
                }
            }
        }
        town("pm0", 3);
        town("pm1", 3);
        town("pm1;p", 5);
        town("pm1;pm8", 7);
        town("pm1;pm1", 7);
        town("pm7;p;p;p;p;p;p", 15);
        town("pm0 ", 4);
        town("pm1;s  ", 7);
        town("pm1;pm2;pm0", 11);
        // a byte that can't be comes first
        town("pm0x", 3);
        town("pm1;p;", 6);
    }

    // ---- a LAW

    /** "CLAUSES with ; between, one at least" */
    private static void clausesOneAtLeast() {
        law("", 0);
        law(" ", 1);
        law(";", 0);
        law("y:1", NONE);
        law("y:1;", 4);
        law(";y:1", 0);
        law("y:1;;y:1", 4);
        law("y:1;v:1", NONE);
        StringBuilder many = new StringBuilder();
        for (int i = 0; i < 60; i++) {
            many.append(i == 0 ? "" : ";").append(i == 59 ? "y:7" : "v:1");
        }
        law(many.toString(), NONE);
        law(many + ";", 240);
        due("the sixtieth", Check.with("p", many.toString(), null).wakes(0, 0), 7);
    }

    /** "y or v, : , perhaps CONDITION ?, then SUM" */
    private static void lawBeginsWithYOrV() {
        for (int b = 1; b < 256; b++) {
            char sign = (char) b;
            if (sign != ' ') {
                law(sign + ":1", sign == 'y' || sign == 'v' ? NONE : 0);
                law("y:1;" + sign + ":1", sign == 'y' || sign == 'v' ? NONE : 4);
                law("y" + sign + "1", sign == ':' ? NONE : 1);
            }
        }
    }

    /** "ATOM: a number (1 to 4 digits)"; "a fifth one in a LAW itself" */
    private static void oneToFourDigits() {
        String[] heads = {"y:", "y:g+", "y:[", "y:g=", "y:1=1?", "y:!", "y:(", "y:g*", "v:1;y: "};
        String[] tails = {"", "", "]", "?1", "", "=1?1", "=1)?1", "", ""};
        for (int i = 0; i < heads.length; i++) {
            for (int digits = 1; digits <= 4; digits++) {
                law(heads[i] + "9999".substring(4 - digits) + tails[i], NONE);
                law(heads[i] + "0000".substring(4 - digits) + tails[i], NONE);
            }
            law(heads[i] + "99999" + tails[i], heads[i].length() + 4);
            law(heads[i] + "00000" + tails[i], heads[i].length() + 4);
            law(heads[i] + "000001" + tails[i], heads[i].length() + 4);
        }
        due("0007", Check.with("p", "y:0007", null).wakes(0, 0), 7);
        due("9999", Check.with("p", "y:9999-9990", null).wakes(0, 0), 9);
    }

    /** "ATOM: a number .., a letter (g c w t h a), [ SUM ]": what may stand where a CLAUSE goes on. */
    private static void atomsByEachByte() {
        for (int b = 1; b < 256; b++) {
            char sign = (char) b;
            boolean atom = "gcwtha0123456789".indexOf(sign) >= 0;
            boolean open = "[!( ".indexOf(sign) >= 0;
            law("y:" + sign, atom ? NONE : open ? 3 : 2);
            law("y:1+" + sign, atom ? NONE : sign == '[' || sign == ' ' ? 5 : 4);
            law("y:1=1?" + sign, atom ? NONE : sign == '[' || sign == ' ' ? 7 : 6);
            law("y:1=1&" + sign, atom || open ? 7 : 6);
        }
    }

    /** What may stand behind an ATOM, of a first SUM, a CONDITION, and the SUM behind one. */
    private static void signsByEachByte() {
        for (int b = 1; b < 256; b++) {
            char sign = (char) b;
            boolean sums = "+-*/".indexOf(sign) >= 0;
            boolean compares = "=<>".indexOf(sign) >= 0;
            law("y:g" + sign, sign == ' ' ? NONE : sums || compares || sign == ';' ? 4 : 3);
            law("y:g=c" + sign, sums || sign == ' ' || "&|?".indexOf(sign) >= 0 ? 6 : 5);
            law("y:g=c?w" + sign, sign == ' ' ? NONE : sums || sign == ';' ? 8 : 7);
            law("y:(g=c" + sign, sums || sign == ' ' || "&|)".indexOf(sign) >= 0 ? 7 : 6);
            law("y:[g" + sign, sums || sign == ' ' || sign == ']' ? (sign == ']' ? NONE : 5) : 4);
            law("y:(g=c)" + sign, sign == ' ' || "&|?".indexOf(sign) >= 0 ? 8 : 7);
        }
    }

    /** "(A CLAUSE that goes on with ! or ( behind its : has a CONDITION.)" */
    private static void conditionBehindBangOrBracket() {
        law("y:!1=1?1", NONE);
        law("y:(1=1)?1", NONE);
        law("y:!1=1", 6);
        law("y:(1=1)", 7);
        law("y:(1)", 4);
        law("y:(1)+1", 4);
        law("y:(1=1);v:1", 7);
        law("y:!1", 4);
        law("y:!1;", 4);
        law("y: ! 1=1?1", NONE);
        law("y:[1]", NONE);
        law("y:[1]=1?1", NONE);
    }

    private static String closing(String opening) {
        StringBuilder close = new StringBuilder();
        boolean compared = false;
        for (int i = opening.length() - 1; i >= 0; i--) {
            char sign = opening.charAt(i);
            if (sign != '[' && !compared) {
                close.append("=1");
                compared = true;
            }
            close.append(sign == '[' ? "]" : sign == '(' ? ")" : "");
        }
        return close + (compared ? "?1" : "");
    }

    /** "At most six of ( [ ! within one another"; "a seventh of ( [ ! in a LAW at it" */
    private static void sixWithinOneAnother() {
        for (int brackets = 0; brackets <= 6; brackets++) {
            int conditions = 6 - brackets;
            for (int mix = 0; mix < 1 << conditions; mix++) {
                StringBuilder opening = new StringBuilder();
                for (int i = 0; i < conditions; i++) {
                    opening.append((mix >> i & 1) == 0 ? '(' : '!');
                }
                for (int i = 0; i < brackets; i++) {
                    opening.append('[');
                }
                law("y:" + opening + "1" + closing(opening.toString()), NONE);
                law("y:" + opening + "[1", 8);
                if (brackets == 0) {
                    law("y:" + opening + "(1", 8);
                    law("y:" + opening + "!1", 8);
                    law("y:" + opening + "1=[1", 10);
                    law("y:" + opening + "1=1+2*[1", 14);
                }
            }
        }
        // also behind what came ahead in the same CLAUSE
        law("y:1=1?[[[[[[1]]]]]]", NONE);
        law("y:1=1?[[[[[[[1]]]]]]]", 12);
        law("y:1=1&((((((1=1))))))?1", NONE);
        law("y:1=1&(((((((1=1)))))))?1", 12);
        law("y:1=1|!!!!!!1=1?1", NONE);
        law("y:1=1|!!!!!!!1=1?1", 12);
        law("y:1=[[[[[[1]]]]]]?1", NONE);
        law("y:1=[[[[[[[1]]]]]]]?1", 10);
        due("six not: even", Check.with("p", "y:!!!!!!1=1?7", null).wakes(0, 0), 7);
        due("five not: odd", Check.with("p", "y:!!!!!1=1?7", null).wakes(0, 0), 0);
        due("six deep", Check.with("p", "y:[[[[[[7]]]]]]", null).wakes(0, 0), 7);
    }

    /** Those beside one another do not count. */
    private static void manyBesideOneAnother() {
        law("y:[1]+[1]+[1]+[1]+[1]+[1]+[1]+[1]", NONE);
        law("y:(1=1)&(1=1)&(1=1)|(1=1)&(1=1)|(1=1)&(1=1)&(1=1)?1", NONE);
        law("y:!1=1&!1=1&!1=1&!1=1|!1=1&!1=1&!1=1&!1=1?1", NONE);
        law("y:!1=1&[[[[[[1]]]]]]=1?1", NONE);
        law("y:((((((1=1))))))&((((((1=1))))))?[[[[[[1]]]]]]", NONE);
        law("y:[[[[[[1]]]]]]+[[[[[[1]]]]]]", NONE);
        law("y:[[[[[[1]]]]]]+[[[[[[[1]]]]]]]", 22);
        law("y:[[[[[[1]]]]]];v:[[[[[[1]]]]]]", NONE);
    }

    private static void holds(String condition, boolean want) {
        GuiltySleep x = Check.with("p", "y:" + condition + "?7;y:3", null);
        due(condition, x.wakes(0, 0), want ? 7 : 3);
    }

    /** "Behind each sign numbers are within -1,000,000 .. 1,000,000" */
    private static void millionAbove() {
        String million = "[1000*1000]";
        String less = "[999*1000+999]";
        holds(less + "<" + million, true);
        holds(less + "+1=" + million, true);
        holds(less + "+2=" + million, true);
        holds(less + "+9999=" + million, true);
        holds(million + "+0=" + million, true);
        holds(million + "+1=" + million, true);
        holds(million + "-1=" + less, true);
        holds(million + "-1<" + million, true);
        // behind each sign, not only behind the last
        holds(million + "+1-1=" + less, true);
        holds(million + "+1-1=" + million, false);
        holds("1000*1001=" + million, true);
        holds("9999*9999=" + million, true);
        holds("1001*1000-1000=[999*1000]", true);
        holds(million + "*1=" + million, true);
        holds(million + "*2=" + million, true);
        holds(million + "*" + million + "=" + million, true);
        holds(million + "-[0-1]=" + million, true);
        holds(million + "*2/2=[500*1000]", true);
        holds("0-[0-" + million + "]=" + million, true);
        holds("[0-" + million + "]*[0-2]=" + million, true);
    }

    private static void millionBelow() {
        String million = "[0-1000*1000]";
        String more = "[0-999*1000-999]";
        holds(more + ">" + million, true);
        holds(more + "-1=" + million, true);
        holds(more + "-2=" + million, true);
        holds(million + "-0=" + million, true);
        holds(million + "-1=" + million, true);
        holds(million + "-1+1=" + more, true);
        holds(million + "-1+1=" + million, false);
        holds(million + "+1=" + more, true);
        holds(million + "+1>" + million, true);
        holds(million + "*1=" + million, true);
        holds(million + "*2=" + million, true);
        holds(million + "*9999=" + million, true);
        holds("1001*[0-1000]=" + million, true);
        holds("1000*[0-1000]=" + million, true);
        holds(million + "*[1000*1000]=" + million, true);
        holds(million + "+[0-1]=" + million, true);
        holds(million + "*2/2=[0-500*1000]", true);
    }

    /** "/ cuts towards 0" */
    private static void divisionCuts() {
        holds("7/2=3", true);
        holds("8/2=4", true);
        holds("1/2=0", true);
        holds("[0-7]/2=0-3", true);
        holds("7/[0-2]=0-3", true);
        holds("[0-7]/[0-2]=3", true);
        holds("[0-1]/2=0", true);
        holds("[0-8]/2=0-4", true);
        holds("[0-9]/10=0", true);
        holds("[0-10]/10=0-1", true);
        holds("1/[0-9999]=0", true);
    }

    /** "by 0 gives 0" */
    private static void divisionByNothing() {
        holds("5/0=0", true);
        holds("0/0=0", true);
        holds("[0-5]/0=0", true);
        holds("[1000*1000]/0=0", true);
        holds("5/[1-1]=0", true);
        holds("5/a=0", true);
        holds("5/0+2=2", true);
        holds("9/0*3=0", true);
        holds("9*0/0=0", true);
    }

    /** "WORTH .. the SUM of the first such CLAUSE whose CONDITION holds (or has none), 0 without" */
    private static void worthWithout() {
        due("no y", Check.with("pc9", "v:5", null).wakes(0, 0), 0);
        due("none holds", Check.with("pc9", "y:1=2?5;y:1>2?6", null).wakes(0, 0), 0);
        due("the last holds", Check.with("pc9", "y:1=2?5;y:1<2?6", null).wakes(0, 0), 6);
        due("the first that holds", Check.with("pc9", "v:9;y:1=2?5;y:1=1?6;y:7", null).wakes(0, 0), 6);
        due("has none", Check.with("pc9", "y:4;y:1=1?6", null).wakes(0, 0), 4);
        GuiltySleep x = Check.with("sh1;p", "y:9", "0");
        x.night(1);
        due("no v", x.points(0), 0);
        x = Check.with("sh1;p", "y:9;v:1=2?5", "0");
        x.night(1);
        due("no v that holds", x.points(0), 0);
        x = Check.with("sh1;p", "v:1=2?5;y:9;v:4;v:6", "0");
        x.night(1);
        due("the first v that holds", x.points(0), 4);
    }

    /** A LAW that is refused leaves nothing in the next one. */
    private static void refusedLawLeavesNothing() {
        GuiltySleep x = Check.town("pc9");
        due("refused", Check.text(x, 1, "v:1;y:9;y:8;y:7x"), NONE);
        due("taken", Check.text(x, 1, "v:1"), 0);
        x.law(0);
        due("no y", x.wakes(0, 0), 0);
        due("refused", Check.text(x, 1, "y:!1=1?2;y:1=1?7x"), NONE);
        due("taken", Check.text(x, 1, "y:1+2"), 1);
        x.law(1);
        due("1 + 2", x.wakes(0, 0), 3);
        due("refused", Check.text(x, 1, "y:1=2?9x"), NONE);
        due("taken", Check.text(x, 1, "y:5"), 2);
        x.law(2);
        due("no condition", x.wakes(0, 0), 5);
        x.law(1);
        due("the one ahead is as it was", x.wakes(0, 0), 3);
        due("refused", Check.text(x, 1, "y:1;y:9x"), NONE);
        due("taken", Check.text(x, 1, "v:1+1+1"), 3);
        x.law(3);
        due("no second clause", x.wakes(0, 0), 0);
        // as long as can be, behind one as long
        StringBuilder ones = new StringBuilder();
        for (int i = 0; i < 117; i++) {
            ones.append("-1");
        }
        x = Check.town("pc9");
        due("refused", Check.text(x, 1, "y:124" + ones + "x"), NONE);
        due("taken", Check.text(x, 1, "y:124" + ones), 0);
        x.law(0);
        due("all of it", x.wakes(0, 0), 7);
    }

    /** A WATCH or a TOWN that is refused leaves nothing in the next one. */
    private static void refusedTextsLeaveNothing() {
        GuiltySleep x = new GuiltySleep();
        due("refused", Check.text(x, 2, "123456x"), NONE);
        due("taken", Check.text(x, 2, "0"), 0);
        due("first", x.watched(0, 0), 0);
        for (int hour = 1; hour < 9; hour++) {
            due("not told", x.watched(0, hour), NONE);
        }
        due("refused", Check.text(x, 0, "sh9k30c9;pg9c9w9t9m1;pm0;x"), NONE);
        due("taken", Check.text(x, 0, "s;p;p"), 2);
        int[] plain = {0, 5, 1, 0, NONE, 0, 0, 0};
        for (int what = 0; what < 8; what++) {
            due("person's " + what, x.person(0, what), plain[what]);
        }
        due("rules", x.rule(0) * 100 + x.rule(1) * 10 + x.rule(2), 643);
    }

    // ---- a WATCH

    /** "digits, one for each HOUR from 0 on, 1 to 9"; "a tenth digit of a WATCH" at it */
    private static void oneToNineDigits() {
        String nine = "012345678";
        watch("", 0);
        for (int digits = 1; digits <= 9; digits++) {
            watch(nine.substring(0, digits), NONE);
            GuiltySleep x = new GuiltySleep();
            Check.text(x, 2, nine.substring(0, digits));
            for (int hour = 0; hour < 9; hour++) {
                due("hour " + hour + " of " + digits, x.watched(0, hour), hour < digits ? hour : NONE);
            }
        }
        watch(nine + "9", 9);
        watch(nine + "0", 9);
        watch(nine + " ", NONE);
        watch(nine + " 9", 10);
        watch(nine + "99", 9);
    }

    private static void booked(String town, String watch, int want) {
        GuiltySleep x = Check.with(town, null, watch);
        x.night(1);
        due("hours put down by " + watch + " of " + town, x.count(11), want);
    }

    /** "9 nobody (HOURS that are not told: nobody; more digits than HOURS: these do not matter; a PERSON that is not there: nobody)" */
    private static void watchNobody() {
        booked("sh3;p;p", "9", 0);
        booked("sh3;p;p", "999", 0);
        booked("sh3;p;p", "909", 1);
        booked("sh3;p;p", "0", 1);
        booked("sh3;p;p", "01", 2);
        booked("sh3;p;p", "011", 3);
        booked("sh3;p;p", "0111", 3);
        booked("sh3;p;p", "999011111", 0);
        booked("sh3;p;p", "012", 2);
        booked("sh3;p;p", "228", 0);
        booked("sh3;p;p;p;p;p;p;p;p", "777", 3);
        booked("sh3;p;p;p;p;p;p;p;p", "788", 1);
        booked("sh9;p", "000000000", 9);
        booked("sh1;p", "000000000", 1);
        GuiltySleep x = new GuiltySleep();
        Check.text(x, 2, "89");
        due("8 as told", x.watched(0, 0), 8);
        due("9 is nobody", x.watched(0, 1), NONE);
        due("not told", x.watched(0, 2), NONE);
    }

    private static void watchByEachByte() {
        for (int b = 1; b < 256; b++) {
            char sign = (char) b;
            boolean digit = sign >= '0' && sign <= '9';
            watch("" + sign, digit ? NONE : sign == ' ' ? 1 : 0);
            watch("1" + sign, digit || sign == ' ' ? NONE : 1);
        }
    }

    // ---- blanks and FAULTS

    private static String spaced(String text, String blank) {
        StringBuilder s = new StringBuilder(blank);
        for (int i = 0; i < text.length(); i++) {
            s.append(text.charAt(i));
            boolean inNumber = i + 1 < text.length() && Character.isDigit(text.charAt(i)) && Character.isDigit(text.charAt(i + 1));
            s.append(inNumber ? "" : blank);
        }
        return s.toString();
    }

    /** "Blanks (32) may stand between all signs of these .. (between digits of a WATCH they may)" */
    private static void blanksBetweenSigns() {
        GuiltySleep x = Check.town(spaced("sh9k12c4;pg1c2w3t4m1;pm0", "  "));
        due("rules", x.rule(0) * 1000 + x.rule(1) * 10 + x.rule(2), 9124);
        due("person", x.person(0, 0) * 1000 + x.person(0, 1) * 100 + x.person(0, 2) * 10 + x.person(0, 3), 1234);
        due("married", x.person(1, 4), 0);
        String law = "y:!(g=[1+10]|c<2&w>1)?[10-1]*2/3;v:1";
        law(spaced(law, "  "), NONE);
        Check.text(x, 1, spaced(law, " "));
        x.law(0);
        due("by the law", x.wakes(0, 0), 6);
        x = new GuiltySleep();
        due("a watch", Check.text(x, 2, "  1  2 3 9 4  "), 0);
        due("hour 1", x.watched(0, 1), 2);
        due("hour 3", x.watched(0, 3), NONE);
        due("hour 4", x.watched(0, 4), 4);
        watch(" 0 1 2 3 4 5 6 7 8 ", NONE);
        StringBuilder blanks = new StringBuilder();
        for (int i = 0; i < 239; i++) {
            blanks.append(' ');
        }
        town(blanks + "p", NONE);
        town("p" + blanks, NONE);
        town(blanks + " ", 240);
        law(blanks + " ", 240);
        watch(blanks + " ", 240);
        watch(blanks + "1", NONE);
    }

    /** "not within numbers" */
    private static void blanksNotInNumbers() {
        town("sk10;p", NONE);
        town("sk1 0;p", 4);
        town("pg0 1", 4);
        town("pg 01", NONE);
        law("y:12", NONE);
        law("y:1 2", 4);
        law("y:123 4", 6);
        law("y:1 2=3?1", 4);
    }

    private static void blanksAreThirtyTwo() {
        for (int b : new int[] {1, 9, 10, 11, 12, 13, 31, 33, 127, 133, 160, 255}) {
            char sign = (char) b;
            town(sign + "p", 0);
            town("p" + sign, 1);
            law(sign + "y:1", 0);
            // 33 is !, which may stand there
            law("y:" + sign + "1", b == 33 ? 4 : 2);
            law("y:1" + sign, 3);
            watch(sign + "1", 0);
            watch("1" + sign, 1);
        }
    }

    private static void townBeginsByEachByte() {
        for (int b = 1; b < 256; b++) {
            char sign = (char) b;
            town("" + sign, sign == 'p' ? NONE : sign == 's' || sign == ' ' ? 1 : 0);
            town("p;" + sign, sign == 'p' || sign == 's' ? NONE : sign == ' ' ? 3 : 2);
            // a second digit makes it too large
            town("pg1" + sign, sign == ' ' ? NONE : ";cwtm".indexOf(sign) >= 0 ? 4 : 3);
        }
    }

    /** "the length, if it ends too early" */
    private static void townEndsTooEarly() {
        String whole = "sh3k2c1;pg1c2w3t4m1;pm0";
        int[] open = {0, 1, 2, 3, 4, 5, 6, 7, 8, 10, 12, 14, 16, 18, 19, 20, 21, 22};
        for (int n : open) {
            town(whole.substring(0, n), n);
        }
        for (int n : new int[] {9, 11, 13, 15, 17, 23}) {
            town(whole.substring(0, n), NONE);
        }
    }

    private static void lawEndsTooEarly() {
        String whole = "y:!(g=1|c<2)&[w]>3?[t+4]*h;v:a";
        for (int n = 0; n < whole.length(); n++) {
            boolean ends = n == 24 || n == 26;
            law(whole.substring(0, n), ends ? NONE : n);
        }
        law(whole, NONE);
    }

    /** "a number out of bounds is wrong at its last digit" */
    private static void outOfBoundsAtLastDigit() {
        town("sh0", 2);
        town("sh0;p", 2);
        town("sh0 ;p", 2);
        town("sh00;p", 3);
        town("sh10;p", 3);
        town("sh99", 3);
        town("sk0;p", 2);
        town("sk31;p", 3);
        town("sc10;p", 3);
        town("pg10;p", 3);
        town("pg10x", 3);
        town("pg 10", 4);
        town("pm9;p", 2);
        town("pm09", 3);
        town("pm10", 3);
    }

    /** "a third digit (whatever stands ahead of it ..) itself" */
    private static void thirdDigitItself() {
        town("pg001", 4);
        town("pg101", 4);
        town("pg999", 4);
        town("sh000;p", 4);
        town("sh100;p", 4);
        town("sk300;p", 4);
        town("sk310;p", 4);
        town("pm080", 4);
        town("pm900", 4);
        town("pg 100", 5);
        town("pg10 0", 3);
        town("pg1000", 4);
    }

    // ---- promises 2 to 5

    /** "(of each number the highest first ..)" */
    private static void feedHighestFirst() {
        GuiltySleep x = new GuiltySleep();
        // "pg1c2w3t4" and "m8" in five numbers
        due("all", x.feed(0x70673163, 0x32773374, 0x346d3820, 0x20202020, 0x3b702020), 20);
        due("two", x.text(0), 2);
        due("in order", x.person(0, 0) * 1000 + x.person(0, 1) * 100 + x.person(0, 2) * 10 + x.person(0, 3), 1234);
        // a number below 0: its highest byte is 128 or more
        due("below 0", x.feed(0x70ff0000, 0, 0, 0, 0), 2);
        due("a byte of 255", x.fault(0), 1);
        x.end(0);
        due("least", x.feed(Integer.MIN_VALUE, 0, 0, 0, 0), 1);
        due("a byte of 128", x.fault(0), 0);
        due("below 0", x.feed(-1, -1, -1, -1, -1), 21);
    }

    /** "bytes of 0 are left out" */
    private static void feedLeavesOutNothings() {
        GuiltySleep x = new GuiltySleep();
        due("nothing", x.feed(0, 0, 0, 0, 0), 0);
        int[] places = {0x70000000, 0x00700000, 0x00007000, 0x00000070};
        int[] w = new int[5];
        for (int i = 0; i < 5; i++) {
            for (int place : places) {
                w[i] = place;
                x.end(0);
                due("one byte", x.feed(w[0], w[1], w[2], w[3], w[4]), 1);
                due("is p", x.fault(0), NONE);
                w[i] = 0;
            }
        }
        x.end(0);
        due("one here and there", x.feed(0x00700000, 0x00000067, 0, 0x37000000, 0), 3);
        due("together", x.text(0), 1);
        due("guilt", x.person(0, 0), 7);
    }

    private static GuiltySleep fed(int many) {
        GuiltySleep x = new GuiltySleep();
        for (int i = 0; i < many; i++) {
            x.feed(0x20000000, 0, 0, 0, 0);
        }
        due("so many", x.count(3), many);
        return x;
    }

    /** "how many it has. NONE: more than 240" */
    private static void feedUpTo240() {
        for (int had = 219; had <= 240; had++) {
            GuiltySleep x = fed(had);
            boolean fits = had + 20 <= 240;
            due("twenty behind " + had, x.feed(-1, -1, -1, -1, -1), fits ? had + 20 : NONE);
            due("behind it", x.count(3), fits ? had + 20 : had);
            due("as it was", x.fault(0), had);
        }
        GuiltySleep x = fed(239);
        due("two are too many", x.feed(0, 0x00700070, 0, 0, 0), NONE);
        due("not one of them came", x.count(3), 239);
        due("one is not", x.feed(0, 0x00000070, 0, 0, 0), 240);
        due("it is the last", x.fault(0), NONE);
        due("none is not", x.feed(0, 0, 0, 0, 0), 240);
        due("one more is", x.feed(0, 0, 0, 0, 0x70), NONE);
        due("room again", x.end(0), true);
        due("room again", x.feed(0x70000000, 0, 0, 0, 0), 1);
    }

    /** "The TAPE has its first n bytes alone. False: n." */
    private static void endOfTape() {
        GuiltySleep x = new GuiltySleep();
        due("0 of 0", x.end(0), true);
        due("1 of 0", x.end(1), false);
        due("-1 of 0", x.end(-1), false);
        x = fed(240);
        due("241", x.end(241), false);
        due("still", x.count(3), 240);
        due("240", x.end(240), true);
        due("still", x.count(3), 240);
        due("239", x.end(239), true);
        due("fewer", x.count(3), 239);
        due("240 are gone", x.end(240), false);
        Check.tape(x, "pg12");
        due("the first three", x.end(3), true);
        due("are g1", x.text(0), 1);
        due("g1", x.person(0, 0), 1);
        Check.tape(x, "pg12");
        due("the first", x.end(1), true);
        due("goes on", x.feed(0x63330000, 0, 0, 0, 0), 3);
        due("is pc3", x.text(0), 1);
        due("c3", x.person(0, 1), 3);
        due("g without", x.person(0, 0), 0);
        due("empty", x.end(0), true);
        due("empty", x.count(3), 0);
    }

    /** "-2: no such sort", and that a FAULT is only asked for. */
    private static void faultLeavesTape() {
        GuiltySleep x = Check.town("pg3");
        Check.tape(x, "pg4");
        due("a town", x.fault(0), NONE);
        due("no law", x.fault(1), 0);
        due("no watch", x.fault(2), 0);
        due("sort 3", x.fault(3), -2);
        due("sort -1", x.fault(-1), -2);
        due("sort -2", x.fault(-2), -2);
        due("the tape is there", x.count(3), 3);
        due("the town is as it was", x.person(0, 0), 3);
        due("no law came", x.count(1), 0);
        due("then it is taken", x.text(0), 1);
        due("g4", x.person(0, 0), 4);
        Check.text(x, 1, "y:7");
        x.law(0);
        Check.tape(x, "y:2");
        due("a law", x.fault(1), NONE);
        due("not taken", x.wakes(0, 0), 7);
    }

    /** "The TAPE (empty then) .. NONE: a FAULT, no such sort" */
    private static void textEmptiesTape() {
        String[] right = {"p", "y:1", "1"};
        String[] wrong = {"pp", "y:", "1x"};
        int[] answers = {1, 0, 0};
        for (int sort = 0; sort < 3; sort++) {
            GuiltySleep x = new GuiltySleep();
            due("wrong", Check.text(x, sort, wrong[sort]), NONE);
            due("the tape stays", x.count(3), 2);
            due("nothing came", x.count(sort), 0);
            due("right", Check.text(x, sort, right[sort]), answers[sort]);
            due("empty", x.count(3), 0);
            due("one", x.count(sort), 1);
            due("nothing more to take", x.text(sort), NONE);
            Check.tape(x, right[sort]);
            due("no such sort", x.text(3), NONE);
            due("no such sort", x.text(-1), NONE);
            due("no such sort", x.text(-2), NONE);
            due("the tape stays", x.count(3), right[sort].length());
        }
    }

    /** "LAWS (4 at most)"; "its number. NONE: .. there are four" */
    private static void fourLaws() {
        GuiltySleep x = Check.town("p");
        for (int i = 0; i < 4; i++) {
            due("there are " + i, x.count(1), i);
            due("not there yet", x.law(i), false);
            due("its number", Check.text(x, 1, "y:" + (i + 2)), i);
            due("is there", x.law(i), true);
        }
        due("a fifth", Check.text(x, 1, "y:9"), NONE);
        due("its tape stays", x.count(3), 3);
        due("it has no fault", x.fault(1), NONE);
        due("four", x.count(1), 4);
        due("no fifth", x.law(4), false);
        for (int i = 0; i < 4; i++) {
            x.law(i);
            due("as told", x.wakes(0, 0), i + 2);
        }
    }

    /** "WATCHES (4 at most)" */
    private static void fourWatches() {
        GuiltySleep x = Check.town("p");
        for (int i = 0; i < 4; i++) {
            due("there are " + i, x.count(2), i);
            due("not there yet", x.watch(i), false);
            due("not there yet", x.watched(i, 0), HIDDEN);
            due("its number", Check.text(x, 2, "" + (i + 2)), i);
            due("is there", x.watch(i), true);
        }
        due("a fifth", Check.text(x, 2, "10"), NONE);
        due("its tape stays", x.count(3), 2);
        due("it has no fault", x.fault(2), NONE);
        due("four", x.count(2), 4);
        due("no fifth", x.watch(4), false);
        due("no fifth", x.watched(4, 0), HIDDEN);
        for (int i = 0; i < 4; i++) {
            due("as told", x.watched(i, 0), i + 2);
        }
        due("a fourth law all the same", Check.text(x, 1, "y:1"), 0);
    }

    /** "(NIGHT 0; all that was of another one, LAMPS told, too, is gone but LAWS, WATCHES, which hold, CRIMES)" */
    private static void townForgets() {
        String town = "sh2k1;pg2c0w0;p";
        GuiltySleep x = Check.with(town, "y:0;v:1", "01");
        Check.text(x, 1, "y:5");
        Check.text(x, 2, "1");
        x.crimes(6);
        x.lamp(0, 0, false);
        x.night(1);
        x.judge(0);
        x.image();
        x.coffee(1);
        x.forge(1);
        x.deed(1, 5);
        x.worry(1, 9);
        due("the same once more", Check.text(x, 0, town), 2);
        int[] counts = {2, 2, 2, 0, 0, 0, 0, 0, 0, 6, 0, 0, 0, 0};
        for (int what = 0; what < counts.length; what++) {
            due("count " + what, x.count(what), counts[what]);
        }
        int[] plain = {0, 5, 1, 0, NONE, 0, 0, 0};
        for (int what = 0; what < 8; what++) {
            due("person " + what, x.person(1, what), plain[what]);
        }
        due("not gaoled", x.people(0), 3);
        due("no image", x.back(), NONE);
        due("no act", x.undo(), NONE);
        due("no log", x.log(0, 0), HIDDEN);
        due("no book", x.book(0, 0), NONE);
        due("no lamps", x.who(1, 1), 500);
        x.night(1);
        due("the watch holds", x.count(11), 2);
        due("the law holds", x.points(1), 1);
        due("the first night", x.book(0, 0), 0);
    }

    /** PERSONS and HOURS that the TOWN ahead had are not there. */
    private static void townOfEightThenOne() {
        GuiltySleep x = Check.town("sh9;" + EIGHT);
        due("eight", x.people(0), 255);
        due("one", Check.text(x, 0, "sh1;p"), 1);
        due("people", x.people(0), 1);
        due("person 1", x.wakes(1, 0), NONE);
        due("hour 1", x.wakes(0, 1), NONE);
        due("eight again", Check.text(x, 0, EIGHT), 8);
        due("people", x.people(0), 255);
    }
}
