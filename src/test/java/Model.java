import java.math.BigInteger;
import java.util.ArrayDeque;
import java.util.ArrayList;
import java.util.Collections;
import java.util.List;
import java.util.TreeMap;
import java.util.regex.Matcher;
import java.util.regex.Pattern;

/**
 * The document once more, for the tests alone: told by trying everything, with the Java library,
 * and as unlike the class under test as could be.
 */
final class Model {
    static final int NONE = -1;
    static final int HIDDEN = -1000000;
    static final int THROWN = Integer.MIN_VALUE;

    static final class Person implements Cloneable {
        int guilt;
        int conscience = 5;
        int worry = 1;
        int tired;
        int married = 8;
        boolean coffee;
        boolean forged;
        boolean gaoled;

        Person copy() {
            try {
                return (Person) clone();
            } catch (CloneNotSupportedException e) {
                throw new IllegalStateException(e);
            }
        }
    }

    static final class State {
        List<Person> people = new ArrayList<>();
        List<int[]> book = new ArrayList<>();
        List<int[]> log = new ArrayList<>();
        int right;
        int wrong;
        int night;

        State copy() {
            State s = new State();
            for (Person p : people) {
                s.people.add(p.copy());
            }
            s.book.addAll(book);
            s.log.addAll(log);
            s.right = right;
            s.wrong = wrong;
            s.night = night;
            return s;
        }
    }

    String tape = "";
    State now = new State();
    State image;
    int hours;
    int limit;
    int coffeeWakes;
    final List<String> laws = new ArrayList<>();
    final List<String> watches = new ArrayList<>();
    final List<int[]> lamps = new ArrayList<>();
    final ArrayDeque<State> acts = new ArrayDeque<>();
    int law = NONE;
    int watch = NONE;
    int crimes;
    BigInteger x = BigInteger.ZERO;

    // ---- texts

    int feed(int a, int b, int c, int d, int e) {
        StringBuilder more = new StringBuilder(tape);
        for (int n : new int[] {a, b, c, d, e}) {
            for (int i = 3; i >= 0; i--) {
                char sign = (char) (n >> 8 * i & 0xff);
                if (sign != 0) {
                    more.append(sign);
                }
            }
        }
        if (more.length() > 240) {
            return NONE;
        }
        tape = more.toString();
        return tape.length();
    }

    boolean end(int n) {
        if (n < 0 || n > tape.length()) {
            return false;
        }
        tape = tape.substring(0, n);
        return true;
    }

    int fault(int sort) {
        return sort == 0 ? townFault(tape) : sort == 1 ? lawFault(tape) : sort == 2 ? watchFault(tape) : -2;
    }

    static int watchFault(String text) {
        int digits = 0;
        for (int i = 0; i < text.length(); i++) {
            char c = text.charAt(i);
            if (c >= '0' && c <= '9') {
                digits++;
            }
            if (c != ' ' && (c < '0' || c > '9') || digits > 9) {
                return i;
            }
        }
        return digits == 0 ? text.length() : NONE;
    }

    /** The longest piece of the text that some TOWN begins with, by one pattern; then what a pattern can't say. */
    static int townFault(String text) {
        Pattern item = Pattern.compile(" *([a-z]) *(\\d\\d?)(?!\\d)");
        int people = 0;
        boolean rules = false;
        List<Integer> spouses = new ArrayList<>();
        int at = 0;
        while (true) {
            at = blanks(text, at);
            if (at == text.length()) {
                return at;
            }
            char kind = text.charAt(at);
            if (kind == 's' ? rules : kind != 'p' || people == 8) {
                return at;
            }
            rules |= kind == 's';
            people += kind == 'p' ? 1 : 0;
            String left = kind == 's' ? "hkc" : "gcwtm";
            int spouse = 8;
            at = blanks(text, at + 1);
            Matcher m = item.matcher(text);
            while (at < text.length() && text.charAt(at) != ';') {
                if (left.indexOf(text.charAt(at)) < 0) {
                    return at;
                }
                m.region(at, text.length());
                m.useTransparentBounds(true);
                if (!m.lookingAt()) {
                    int digit = blanks(text, at + 1);
                    int last = digit;
                    while (last < text.length() && last < digit + 2 && Character.isDigit(text.charAt(last))) {
                        last++;
                    }
                    return last;
                }
                String letter = m.group(1);
                int value = Integer.parseInt(m.group(2));
                String name = kind + letter;
                int most = name.equals("sk") ? 30 : name.equals("pm") ? 8 : 9;
                int least = name.equals("sh") || name.equals("sk") ? 1 : 0;
                if (value < least || value > most) {
                    return m.end(2) - 1;
                }
                spouse = name.equals("pm") ? value : spouse;
                left = left.replace(letter, "");
                at = blanks(text, m.end());
            }
            if (kind == 'p') {
                spouses.add(spouse);
            }
            if (at == text.length()) {
                break;
            }
            at++;
        }
        boolean good = people > 0;
        for (int i = 0; i < spouses.size(); i++) {
            int other = spouses.get(i);
            good &= other == 8 || other != i && other < spouses.size() && spouses.get(other) == i;
        }
        return good ? NONE : text.length();
    }

    private static int blanks(String text, int at) {
        while (at < text.length() && text.charAt(at) == ' ') {
            at++;
        }
        return at;
    }

    /** All ways to read at once: each way is a pile of what is still to come (a letter and how deep it is). */
    static int lawFault(String text) {
        List<String> ways = new ArrayList<>();
        ways.add("L0");
        for (int i = 0; i < text.length(); i++) {
            List<String> next = new ArrayList<>();
            for (String way : ways) {
                advance(way, text.charAt(i), next, 0);
            }
            if (next.isEmpty()) {
                return i;
            }
            ways = new ArrayList<>(new java.util.LinkedHashSet<>(next));
        }
        for (String way : ways) {
            if (canEnd(way)) {
                return NONE;
            }
        }
        return text.length();
    }

    /** L law, l rest of it, K clause, C condition, c its rest, T truth, t, U unit, S sum, s, E term, e, A atom, 1-3 digits that may follow; 'x a sign. */
    private static void advance(String way, char sign, List<String> next, int steps) {
        if (steps > 200) {
            throw new IllegalStateException("the grammar loops");
        }
        if (way.isEmpty()) {
            if (sign == ' ') {
                next.add(way);
            }
            return;
        }
        char head = way.charAt(0);
        char depth = way.charAt(1);
        String rest = way.substring(2);
        if (sign == ' ' && head != 'N') {
            next.add(way);
            return;
        }
        if (head == '\'') {
            if (depth == sign) {
                next.add(rest);
            }
            return;
        }
        if (head == 'N') {
            if (sign >= '0' && sign <= '9') {
                if (depth > '0') {
                    next.add("N" + (char) (depth - 1) + rest);
                }
                return;
            }
            advance(rest, sign, next, steps + 1);
            return;
        }
        if (head == 'A') {
            if (sign >= '0' && sign <= '9') {
                next.add("N3" + rest);
            } else if ("gcwtha".indexOf(sign) >= 0) {
                next.add(rest);
            } else if (sign == '[' && depth < '6') {
                next.add("S" + (char) (depth + 1) + "']" + rest);
            }
            return;
        }
        for (String body : bodies(head, depth)) {
            advance(body + rest, sign, next, steps + 1);
        }
    }

    private static List<String> bodies(char head, char d) {
        List<String> all = new ArrayList<>();
        String deeper = d < '6' ? String.valueOf((char) (d + 1)) : null;
        switch (head) {
            case 'L': all.add("K0l0"); break;
            case 'l': all.add(""); all.add("';K0l0"); break;
            case 'K':
                for (String k : new String[] {"'y", "'v"}) {
                    all.add(k + "':S0");
                    all.add(k + "':C0'?S0");
                }
                break;
            case 'C': all.add("T" + d + "c" + d); break;
            case 'c': all.add(""); all.add("'|T" + d + "c" + d); break;
            case 'T': all.add("U" + d + "t" + d); break;
            case 't': all.add(""); all.add("'&U" + d + "t" + d); break;
            case 'U':
                if (deeper != null) {
                    all.add("'!U" + deeper);
                    all.add("'(C" + deeper + "')");
                }
                for (String o : new String[] {"'=", "'<", "'>"}) {
                    all.add("S" + d + o + "S" + d);
                }
                break;
            case 'S': all.add("E" + d + "s" + d); break;
            case 's': all.add(""); all.add("'+E" + d + "s" + d); all.add("'-E" + d + "s" + d); break;
            case 'E': all.add("A" + d + "e" + d); break;
            case 'e': all.add(""); all.add("'*A" + d + "e" + d); all.add("'/A" + d + "e" + d); break;
            default: throw new IllegalStateException("no such symbol " + head);
        }
        return all;
    }

    private static boolean canEnd(String way) {
        for (int i = 0; i < way.length(); i += 2) {
            if ("lctseN".indexOf(way.charAt(i)) < 0) {
                return false;
            }
        }
        return true;
    }

    int text(int sort) {
        if (sort < 0 || sort > 2 || fault(sort) != NONE) {
            return NONE;
        }
        String told = tape.replace(" ", "");
        if (sort == 0) {
            settle(told);
            tape = "";
            return now.people.size();
        }
        List<String> texts = sort == 1 ? laws : watches;
        if (texts.size() == 4) {
            return NONE;
        }
        texts.add(told);
        tape = "";
        return texts.size() - 1;
    }

    private void settle(String told) {
        now = new State();
        image = null;
        acts.clear();
        lamps.clear();
        hours = 6;
        limit = 4;
        coffeeWakes = 3;
        for (String clause : told.split(";")) {
            TreeMap<Character, Integer> items = new TreeMap<>();
            Matcher m = Pattern.compile("([a-z])(\\d+)").matcher(clause.substring(1));
            while (m.find()) {
                items.put(m.group(1).charAt(0), Integer.parseInt(m.group(2)));
            }
            if (clause.charAt(0) == 's') {
                hours = items.getOrDefault('h', 6);
                limit = items.getOrDefault('k', 4);
                coffeeWakes = items.getOrDefault('c', 3);
            } else {
                Person p = new Person();
                p.guilt = items.getOrDefault('g', 0);
                p.conscience = items.getOrDefault('c', 5);
                p.worry = items.getOrDefault('w', 1);
                p.tired = items.getOrDefault('t', 0);
                p.married = items.getOrDefault('m', 8);
                now.people.add(p);
            }
        }
    }

    // ---- laws

    private static long held(long v) {
        return Math.max(-1000000, Math.min(1000000, v));
    }

    /** The place of the last of these signs that stands in no bracket, or -1. */
    private static int lastOpen(String text, String signs) {
        int depth = 0;
        for (int i = text.length() - 1; i >= 0; i--) {
            char c = text.charAt(i);
            if (c == ')' || c == ']') {
                depth++;
            } else if (c == '(' || c == '[') {
                depth--;
            } else if (depth == 0 && signs.indexOf(c) >= 0) {
                return i;
            }
        }
        return -1;
    }

    private static long sum(String text, int[] letters) {
        int at = lastOpen(text, "+-");
        if (at < 0) {
            return term(text, letters);
        }
        long left = sum(text.substring(0, at), letters);
        long right = term(text.substring(at + 1), letters);
        return held(text.charAt(at) == '+' ? left + right : left - right);
    }

    private static long term(String text, int[] letters) {
        int at = lastOpen(text, "*/");
        if (at < 0) {
            if (text.charAt(0) == '[') {
                return sum(text.substring(1, text.length() - 1), letters);
            }
            int letter = "gcwtha".indexOf(text);
            return letter >= 0 ? letters[letter] : Long.parseLong(text);
        }
        long left = term(text.substring(0, at), letters);
        long right = term(text.substring(at + 1), letters);
        return held(text.charAt(at) == '*' ? left * right : right == 0 ? 0 : left / right);
    }

    private static boolean condition(String text, int[] letters) {
        int at = lastOpen(text, "|");
        if (at >= 0) {
            return condition(text.substring(0, at), letters) || condition(text.substring(at + 1), letters);
        }
        at = lastOpen(text, "&");
        if (at >= 0) {
            return condition(text.substring(0, at), letters) && condition(text.substring(at + 1), letters);
        }
        if (text.charAt(0) == '!') {
            return !condition(text.substring(1), letters);
        }
        if (text.charAt(0) == '(') {
            return condition(text.substring(1, text.length() - 1), letters);
        }
        at = lastOpen(text, "=<>");
        int compared = Long.compare(sum(text.substring(0, at), letters), sum(text.substring(at + 1), letters));
        return compared == "<=>".indexOf(text.charAt(at)) - 1;
    }

    private static long worth(String law, char kind, int[] letters) {
        for (String clause : law.split(";")) {
            if (clause.charAt(0) == kind) {
                String body = clause.substring(2);
                int mark = body.indexOf('?');
                if (mark < 0 || condition(body.substring(0, mark), letters)) {
                    return sum(body.substring(mark + 1), letters);
                }
            }
        }
        return 0;
    }

    private int wakesOf(Person p, int hour) {
        long w = p.conscience + p.worry - p.guilt - p.tired;
        if (law != NONE) {
            w = worth(laws.get(law), 'y', new int[] {p.guilt, p.conscience, p.worry, p.tired, hour, 0});
        }
        return (int) Math.max(0, Math.min(10, w + (p.coffee ? coffeeWakes : 0)));
    }

    private int wakesWithGuilt(int person, int hour, int guilt) {
        Person p = now.people.get(person).copy();
        p.guilt = guilt;
        return wakesOf(p, hour);
    }

    private int pointsOf(int byLaw, Person p, int hour, int lit, int tired) {
        if (byLaw == NONE) {
            return lit == 1 ? -1 : 1;
        }
        long v = worth(laws.get(byLaw), 'v', new int[] {p.guilt, p.conscience, p.worry, tired, hour, lit});
        return (int) Math.max(-9, Math.min(9, v));
    }

    private int caseOf(int person, int byLaw) {
        int sum = 0;
        for (int[] row : now.book) {
            if (row[2] == person) {
                sum += pointsOf(byLaw, now.people.get(person), row[1], row[3], row[4]);
            }
        }
        return sum;
    }

    // ---- asked of the town

    private boolean no(int person) {
        return person < 0 || person >= now.people.size();
    }

    private boolean noTown() {
        return now.people.isEmpty();
    }

    int rule(int what) {
        return noTown() || what < 0 || what > 2 ? NONE : what == 0 ? hours : what == 1 ? limit : coffeeWakes;
    }

    int person(int person, int what) {
        if (no(person) || what < 0 || what > 7) {
            return THROWN;
        }
        Person p = now.people.get(person);
        return new int[] {p.guilt, p.conscience, p.worry, p.tired, p.married == 8 ? NONE : p.married,
            p.coffee ? 1 : 0, p.forged ? 1 : 0, p.gaoled ? 1 : 0}[what];
    }

    boolean law(int n) {
        if (n < -1 || n >= laws.size()) {
            return false;
        }
        law = n;
        return true;
    }

    boolean watch(int n) {
        if (n < -1 || n >= watches.size()) {
            return false;
        }
        watch = n;
        return true;
    }

    private int seen(int w, int hour) {
        String digits = watches.get(w);
        return hour >= digits.length() || digits.charAt(hour) == '9' ? NONE : digits.charAt(hour) - '0';
    }

    int watched(int w, int hour) {
        return w < 0 || w >= watches.size() || hour < 0 || hour > 8 ? HIDDEN : seen(w, hour);
    }

    boolean crimes(int v) {
        if (v < 0 || v > 9 || v == crimes) {
            return false;
        }
        crimes = v;
        return true;
    }

    int wakes(int person, int hour) {
        return no(person) || hour < 0 || hour >= hours ? NONE : wakesOf(now.people.get(person), hour);
    }

    // ---- acts

    private void act() {
        acts.addLast(now.copy());
        if (acts.size() > 40) {
            acts.removeFirst();
        }
    }

    int deed(int person, int n) {
        if (no(person) || n == 0 || n < -9 || n > 9) {
            return NONE;
        }
        int guilt = now.people.get(person).guilt + n;
        if (guilt < 0 || guilt > 9) {
            return NONE;
        }
        act();
        now.people.get(person).guilt = guilt;
        return guilt;
    }

    boolean coffee(int person) {
        if (no(person) || now.people.get(person).coffee) {
            return false;
        }
        act();
        now.people.get(person).coffee = true;
        return true;
    }

    boolean forge(int person) {
        if (no(person) || now.people.get(person).forged) {
            return false;
        }
        act();
        now.people.get(person).forged = true;
        return true;
    }

    int worry(int person, int v) {
        if (no(person) || v < 0 || v > 9 || now.people.get(person).worry == v) {
            return NONE;
        }
        act();
        int was = now.people.get(person).worry;
        now.people.get(person).worry = v;
        return was;
    }

    private static final BigInteger ROUND = BigInteger.ONE.shiftLeft(64);

    private int draw(int j) {
        x = x.multiply(new BigInteger("6364136223846793005")).add(new BigInteger("1442695040888963407")).mod(ROUND);
        return x.shiftRight(33).mod(BigInteger.valueOf(j)).intValue();
    }

    private void pass() {
        State before = now.copy();
        int[] awake = new int[8];
        for (int hour = 0; hour < hours; hour++) {
            for (int i = 0; i < before.people.size(); i++) {
                Person p = before.people.get(i);
                boolean up = draw(10) < wakesOf(p, hour);
                awake[i] += up ? 1 : 0;
                if (watch != NONE && seen(watch, hour) == i && !p.gaoled) {
                    now.book.add(new int[] {before.night, hour, i, up || p.forged ? 1 : 0, p.tired});
                }
            }
        }
        while (now.book.size() > 60) {
            now.book.remove(0);
        }
        for (int i = 0; i < now.people.size(); i++) {
            now.people.get(i).tired = awake[i];
            now.people.get(i).coffee = false;
            now.people.get(i).forged = false;
        }
        now.night++;
    }

    int night(long seed) {
        if (noTown() || now.night == 999) {
            return NONE;
        }
        act();
        x = BigInteger.valueOf(seed).mod(ROUND);
        pass();
        return now.night;
    }

    int years(int n, long seed) {
        if (noTown() || n < 1 || n > 30 || now.night + n > 999) {
            return NONE;
        }
        x = BigInteger.valueOf(seed).mod(ROUND);
        for (int i = 0; i < n; i++) {
            act();
            Person p = now.people.get(draw(now.people.size()));
            p.worry = draw(10);
            if (draw(10) < crimes) {
                Person q = now.people.get(draw(now.people.size()));
                q.guilt = Math.min(9, q.guilt + 3);
            }
            pass();
        }
        return now.night;
    }

    int judge(int person) {
        if (no(person) || now.people.get(person).gaoled || booksOf(person) == 0) {
            return NONE;
        }
        act();
        int points = caseOf(person, law);
        Person p = now.people.get(person);
        p.gaoled = points >= limit;
        if (p.gaoled == p.guilt > 0) {
            now.right++;
        } else {
            now.wrong++;
        }
        now.log.add(new int[] {person, p.gaoled ? 1 : 0, points});
        if (now.log.size() > 60) {
            now.log.remove(0);
        }
        now.book.removeIf(row -> row[2] == person);
        return p.gaoled ? 1 : 0;
    }

    int undo() {
        if (acts.isEmpty()) {
            return NONE;
        }
        now = acts.removeLast();
        return acts.size();
    }

    int log(int i, int what) {
        boolean none = i < 0 || i >= now.log.size() || what < 0 || what > 2;
        return none ? HIDDEN : now.log.get(now.log.size() - 1 - i)[what];
    }

    int book(int i, int what) {
        boolean none = i < 0 || i >= now.book.size() || what < 0 || what > 4;
        return none ? NONE : now.book.get(now.book.size() - 1 - i)[what];
    }

    // ---- what may be

    int points(int person) {
        return no(person) ? HIDDEN : caseOf(person, law);
    }

    /** By every set of HOURS in which it may be awake; no cut ever cuts something off here. */
    private int partsAwake(int person, int from) {
        BigInteger all = BigInteger.ZERO;
        for (int set = 0; set < 1 << hours; set++) {
            if (Integer.bitCount(set) >= from) {
                BigInteger one = BigInteger.ONE;
                for (int hour = 0; hour < hours; hour++) {
                    int w = wakes(person, hour);
                    one = one.multiply(BigInteger.valueOf((set >> hour & 1) == 1 ? w : 10 - w));
                }
                all = all.add(one);
            }
        }
        return all.multiply(BigInteger.TEN.pow(9)).divide(BigInteger.TEN.pow(hours)).intValueExact();
    }

    int sleeps(int person) {
        return no(person) ? NONE : 1000000000 - partsAwake(person, 1);
    }

    int awake(int person, int n) {
        return no(person) || n < 0 || n > 9 ? NONE : partsAwake(person, n);
    }

    int seem(int person, int w) {
        if (no(person) || w < 0 || w >= watches.size()) {
            return NONE;
        }
        Person p = now.people.get(person);
        for (int size = 0; size <= hours; size++) {
            for (int set = 0; set < 1 << hours; set++) {
                if (Integer.bitCount(set) == size) {
                    int sum = caseOf(person, law);
                    for (int hour = 0; hour < hours; hour++) {
                        if (seen(w, hour) == person) {
                            sum += pointsOf(law, p, hour, set >> hour & 1, p.tired);
                        }
                    }
                    if (sum < limit) {
                        return set;
                    }
                }
            }
        }
        return NONE;
    }

    int tells(int person, int what) {
        if (no(person) || what < 0 || what > 1) {
            return NONE;
        }
        for (int apart = 10; apart >= 0; apart--) {
            for (int hour = 0; hour < hours; hour++) {
                int d = wakes(person, hour) - wakesWithGuilt(person, hour, 0);
                if (d == apart || d == -apart) {
                    return what == 0 ? hour : apart;
                }
            }
        }
        throw new IllegalStateException("no hour");
    }

    int lamp(int person, int hour, boolean lit) {
        if (no(person) || hour < 0 || hour >= hours || lamps.size() == 12) {
            return NONE;
        }
        lamps.add(new int[] {person, hour, lit ? 1 : 0});
        return lamps.size();
    }

    private long heldOf(int suspect, int x) {
        long product = 1;
        for (int[] l : lamps) {
            int w = wakesWithGuilt(l[0], l[1], l[0] == suspect ? x : 0);
            product *= l[2] == 1 ? w : 10 - w;
        }
        return product;
    }

    int who(int x, int what) {
        if (noTown() || x < 1 || x > 9 || what < 0 || what > 2) {
            return NONE;
        }
        List<Long> all = new ArrayList<>();
        long sum = 0;
        for (int i = 0; i < now.people.size(); i++) {
            all.add(heldOf(i, x));
            sum += heldOf(i, x);
        }
        int best = all.indexOf(Collections.max(all));
        if (what == 0) {
            return best;
        }
        if (what == 1) {
            return sum == 0 ? 0 : (int) (all.get(best) * 1000 / sum);
        }
        int ask = NONE;
        int least = 100;
        for (int i = 0; i < now.people.size() && sum > 0; i++) {
            for (int hour = 0; hour < hours; hour++) {
                int apart = 0;
                for (int j = 0; j < now.people.size(); j++) {
                    if (all.get(j) > 0) {
                        apart += wakesWithGuilt(i, hour, i == j ? x : 0) >= 5 ? 1 : -1;
                    }
                }
                if (Math.abs(apart) < least) {
                    least = Math.abs(apart);
                    ask = 10 * i + hour;
                }
            }
        }
        return ask;
    }

    private int bestRow;
    private int bestSum;

    private void tryRows(int n, int hour, int row, int sum, int[] used) {
        if (hour == hours) {
            if (sum > bestSum) {
                bestSum = sum;
                bestRow = row;
            }
            return;
        }
        for (int i = 0; i < now.people.size(); i++) {
            if (!now.people.get(i).gaoled && used[i] < n) {
                used[i]++;
                tryRows(n, hour + 1, row * 10 + i, sum + 10 - wakes(i, hour), used);
                used[i]--;
            }
        }
    }

    int timetable(int n, int what) {
        if (noTown() || n < 1 || n > 2 || what < 0 || what > 1) {
            return NONE;
        }
        bestRow = NONE;
        bestSum = NONE;
        tryRows(n, 0, 0, 0, new int[8]);
        return what == 0 ? bestRow : bestSum;
    }

    private int share(int person, boolean own, boolean other) {
        int v = -(Math.max(0, caseOf(person, law)) / 2);
        v += own && !other ? 2 : 0;
        v -= other ? 4 : 0;
        v += !own && !other ? 1 : 0;
        return v;
    }

    private boolean noCouple(int person) {
        return no(person) || now.people.get(person).married == 8;
    }

    int couple(int person, int x, int y, int what) {
        if (noCouple(person) || (x | y | what) < 0 || x > 1 || y > 1 || what > 1) {
            return HIDDEN;
        }
        int other = now.people.get(person).married;
        return what == 0 ? share(person, x == 1, y == 1) : share(other, y == 1, x == 1);
    }

    int rests(int person, int i) {
        if (noCouple(person)) {
            return NONE;
        }
        List<Integer> all = new ArrayList<>();
        for (int x = 0; x < 2; x++) {
            for (int y = 0; y < 2; y++) {
                boolean first = couple(person, 1 - x, y, 0) <= couple(person, x, y, 0);
                boolean second = couple(person, x, 1 - y, 1) <= couple(person, x, y, 1);
                if (first && second) {
                    all.add(10 * x + y);
                }
            }
        }
        return i == NONE ? all.size() : i < 0 || i >= all.size() ? NONE : all.get(i);
    }

    private List<Integer> candles(int person, int n) {
        List<Integer> all = new ArrayList<>();
        for (int set = 0; set < 1 << hours; set++) {
            boolean can = Integer.bitCount(set) == n;
            for (int hour = 0; hour < hours; hour++) {
                can &= (set >> hour & 1) == 1 ? wakes(person, hour) > 0 : wakes(person, hour) < 10;
            }
            for (int[] l : lamps) {
                can &= l[0] != person || (set >> l[1] & 1) == l[2];
            }
            if (can) {
                all.add(set);
            }
        }
        return all;
    }

    int candle(int person, int n, int i) {
        if (no(person) || n < 0 || n > 9) {
            return NONE;
        }
        List<Integer> all = candles(person, n);
        return i == NONE ? all.size() : i < 0 || i >= all.size() ? NONE : all.get(i);
    }

    int likeliest(int person, int n) {
        if (no(person) || n < 0 || n > 9) {
            return NONE;
        }
        int best = NONE;
        long most = -1;
        for (int set : candles(person, n)) {
            long product = 1;
            for (int hour = 0; hour < hours; hour++) {
                product *= (set >> hour & 1) == 1 ? wakes(person, hour) : 10 - wakes(person, hour);
            }
            if (product > most) {
                most = product;
                best = set;
            }
        }
        return best;
    }

    private int booksOf(int person) {
        return (int) now.book.stream().filter(row -> row[2] == person).count();
    }

    int wronged(int byLaw) {
        if (noTown() || byLaw < -1 || byLaw >= laws.size()) {
            return NONE;
        }
        int many = 0;
        for (int i = 0; i < now.people.size(); i++) {
            boolean guilty = caseOf(i, byLaw) >= limit;
            many += booksOf(i) > 0 && guilty != now.people.get(i).guilt > 0 ? 1 : 0;
        }
        return many;
    }

    int better() {
        int best = NONE;
        for (int i = laws.size() - 1; i >= 0 && !noTown(); i--) {
            best = best == NONE || wronged(i) <= wronged(best) ? i : best;
        }
        return best;
    }

    int most(int what) {
        if (noTown() || what < 0 || what > 1) {
            return NONE;
        }
        int best = now.people.size() - 1;
        for (int i = best; i >= 0; i--) {
            long a = what == 0 ? now.people.get(i).tired : sleeps(i);
            long b = what == 0 ? now.people.get(best).tired : sleeps(best);
            best = a >= b ? i : best;
        }
        return best;
    }

    int people(int what) {
        if (noTown() || what < 0 || what > 2) {
            return NONE;
        }
        int bits = 0;
        for (int i = 0; i < now.people.size(); i++) {
            Person p = now.people.get(i);
            boolean in = what == 0 ? !p.gaoled : what == 1 ? p.guilt == 0 : caseOf(i, law) >= limit;
            bits += in ? (int) Math.pow(2, i) : 0;
        }
        return bits;
    }

    int cries(int hour) {
        if (noTown() || hour < 0 || hour >= hours) {
            return NONE;
        }
        return now.people.stream().mapToInt(p -> wakesOf(p, hour)).sum();
    }

    int booked(int person, int what) {
        if (no(person) || what < 0 || what > 1) {
            return NONE;
        }
        if (what == 0) {
            return booksOf(person);
        }
        Person p = now.people.get(person);
        int sum = caseOf(person, law);
        for (int more = 0; more <= 99; more++) {
            if (sum >= limit) {
                return more;
            }
            sum += pointsOf(law, p, 0, 0, p.tired);
        }
        return NONE;
    }

    int meet(int one, int other) {
        if (no(one) || no(other) || one == other) {
            return NONE;
        }
        long met = 0;
        for (int hour = 0; hour < hours; hour++) {
            met += (1000000000L - met) * (wakes(one, hour) * wakes(other, hour)) / 100;
        }
        return (int) met;
    }

    int needs(int person, int hour, int v) {
        if (no(person) || hour < 0 || hour >= hours || v < 0 || v > 10) {
            return NONE;
        }
        int least = NONE;
        for (int w = 9; w >= 0; w--) {
            Person p = now.people.get(person).copy();
            p.worry = w;
            least = wakesOf(p, hour) >= v ? w : least;
        }
        return least;
    }

    int line() {
        if (noTown()) {
            return NONE;
        }
        List<Integer> order = new ArrayList<>();
        for (int i = 0; i < now.people.size(); i++) {
            order.add(i);
        }
        order.sort((a, b) -> caseOf(b, law) - caseOf(a, law));
        StringBuilder digits = new StringBuilder();
        for (int i : order) {
            digits.append(i);
        }
        return Integer.parseInt(digits.toString());
    }

    int image() {
        if (noTown()) {
            return NONE;
        }
        image = now.copy();
        return now.night;
    }

    int back() {
        if (image == null) {
            return NONE;
        }
        now = image.copy();
        acts.clear();
        return now.night;
    }

    int count(int what) {
        if (what < 0 || what > 13) {
            return HIDDEN;
        }
        return new int[] {now.people.size(), laws.size(), watches.size(), tape.length(), law, watch, now.night,
            now.right, now.wrong, crimes, lamps.size(), now.book.size(), now.log.size(), acts.size()}[what];
    }
}
