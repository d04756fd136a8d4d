import java.util.Random;

/** Random TEXTS for the tests: right ones, and ones with a byte or two gone wrong. */
final class Texts {
    private final Random r;

    Texts(Random r) {
        this.r = r;
    }

    private String blanks() {
        return r.nextInt(12) == 0 ? " " : "";
    }

    String town(int mostPeople, int mostHours) {
        int people = 1 + r.nextInt(mostPeople);
        int[] spouse = new int[people];
        java.util.Arrays.fill(spouse, 8);
        for (int i = 0; i + 1 < people; i++) {
            int other = i + 1 + r.nextInt(people - i - 1);
            if (spouse[i] == 8 && spouse[other] == 8 && r.nextBoolean()) {
                spouse[i] = other;
                spouse[other] = i;
            }
        }
        int rules = r.nextInt(people + 1);
        StringBuilder s = new StringBuilder();
        for (int i = 0; i <= people; i++) {
            if (i == rules) {
                s.append(s.length() == 0 ? "" : ";").append(blanks()).append("s");
                s.append("h").append(1 + r.nextInt(mostHours)).append(blanks());
                if (r.nextInt(4) > 0) {
                    s.append("k").append(blanks()).append(1 + r.nextInt(r.nextBoolean() ? 6 : 30));
                }
                if (r.nextInt(4) > 0) {
                    s.append("c").append(r.nextInt(10)).append(blanks());
                }
            }
            if (i < people) {
                s.append(s.length() == 0 ? "" : ";").append(blanks()).append("p").append(blanks());
                for (char c : "gcwt".toCharArray()) {
                    if (r.nextBoolean()) {
                        s.append(c).append(r.nextInt(8) == 0 ? "0" : "").append(r.nextInt(10)).append(blanks());
                    }
                }
                if (spouse[i] != 8 || r.nextInt(5) == 0) {
                    s.append("m").append(spouse[i]);
                }
            }
        }
        return s.toString();
    }

    private String number() {
        switch (r.nextInt(6)) {
            case 0: return String.valueOf(r.nextInt(10000));
            case 1: return "0" + r.nextInt(10);
            default: return String.valueOf(r.nextInt(11));
        }
    }

    private String atom(int depth) {
        int pick = r.nextInt(7);
        if (pick == 0 && depth < 6) {
            return "[" + blanks() + sum(depth + 1) + "]";
        }
        return pick < 4 ? String.valueOf("gcwtha".charAt(r.nextInt(6))) : number();
    }

    private String term(int depth) {
        StringBuilder s = new StringBuilder(atom(depth));
        while (r.nextInt(3) == 0) {
            s.append(blanks()).append(r.nextBoolean() ? "*" : "/").append(blanks()).append(atom(depth));
        }
        return s.toString();
    }

    String sum(int depth) {
        StringBuilder s = new StringBuilder(term(depth));
        while (r.nextInt(5) < 2) {
            s.append(r.nextBoolean() ? "+" : "-").append(blanks()).append(term(depth));
        }
        return s.toString();
    }

    private String unit(int depth) {
        int pick = r.nextInt(6);
        if (pick == 0 && depth < 6) {
            return "!" + blanks() + unit(depth + 1);
        }
        if (pick == 1 && depth < 6) {
            return "(" + condition(depth + 1) + blanks() + ")";
        }
        return sum(depth) + blanks() + "=<>".charAt(r.nextInt(3)) + blanks() + sum(depth);
    }

    String condition(int depth) {
        StringBuilder s = new StringBuilder(unit(depth));
        while (r.nextInt(3) == 0) {
            s.append(r.nextBoolean() ? "|" : "&").append(unit(depth));
        }
        return s.toString();
    }

    String law() {
        while (true) {
            StringBuilder s = new StringBuilder();
            int clauses = 1 + r.nextInt(5);
            for (int i = 0; i < clauses; i++) {
                s.append(i == 0 ? "" : ";").append(blanks()).append(r.nextBoolean() ? "y" : "v").append(blanks());
                s.append(":").append(blanks());
                if (r.nextInt(5) < 3) {
                    s.append(condition(0)).append(blanks()).append("?").append(blanks());
                }
                s.append(sum(0));
            }
            if (s.length() <= 240) {
                return s.toString();
            }
        }
    }

    String watch(int people) {
        StringBuilder s = new StringBuilder();
        int hours = 1 + r.nextInt(9);
        for (int i = 0; i < hours; i++) {
            s.append(blanks()).append(r.nextInt(6) == 0 ? r.nextInt(10) : r.nextInt(people));
        }
        return s.append(blanks()).toString();
    }

    String spoilt(String text) {
        StringBuilder s = new StringBuilder(text);
        String signs = "spgcwtmhkayv:;?!()[]=<>|&+-*/0123456789 x\u00e9";
        for (int i = 1 + r.nextInt(3); i > 0; i--) {
            char sign = signs.charAt(r.nextInt(signs.length()));
            int at = r.nextInt(s.length() + 1);
            switch (r.nextInt(4)) {
                case 0:
                    if (s.length() < 240) {
                        s.insert(at, sign);
                    }
                    break;
                case 1:
                    if (at < s.length()) {
                        s.setCharAt(at, sign);
                    }
                    break;
                case 2:
                    if (at < s.length()) {
                        s.deleteCharAt(at);
                    }
                    break;
                default:
                    s.setLength(at);
            }
        }
        return s.toString();
    }
}
