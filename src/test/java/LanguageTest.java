import java.lang.reflect.Constructor;
import java.lang.reflect.Field;
import java.lang.reflect.Method;
import java.lang.reflect.Modifier;
import java.nio.charset.StandardCharsets;
import java.nio.file.Files;
import java.nio.file.Path;
import java.util.Arrays;
import java.util.Set;
import java.util.TreeSet;
import java.util.regex.Matcher;
import java.util.regex.Pattern;

/** The face by reflection, and those rules of LANGUAGE.md that a look at the source can tell. */
public final class LanguageTest {
    private static final String[] FACE = {
        "int feed(int,int,int,int,int)", "boolean end(int)", "int fault(int)", "int text(int)", "int rule(int)",
        "int person(int,int)", "boolean law(int)", "boolean watch(int)", "int watched(int,int)", "boolean crimes(int)",
        "int wakes(int,int)", "int deed(int,int)", "boolean coffee(int)", "boolean forge(int)", "int worry(int,int)",
        "int night(long)", "int judge(int)", "int years(int,long)", "int undo()", "int log(int,int)",
        "int book(int,int)", "int points(int)", "int sleeps(int)", "int awake(int,int)", "int seem(int,int)",
        "int tells(int,int)", "int lamp(int,int,boolean)", "int who(int,int)", "int timetable(int,int)",
        "int couple(int,int,int,int)", "int rests(int,int)", "int candle(int,int,int)", "int likeliest(int,int)",
        "int wronged(int)", "int better()", "int most(int)", "int people(int)", "int cries(int)", "int booked(int,int)",
        "int meet(int,int)", "int needs(int,int,int)", "int line()", "int image()", "int back()", "int count(int)"};

    public static void main(String[] args) throws Exception {
        face();
        fields();
        String source = Files.readString(Path.of(System.getenv("GUILTY_SLEEP_SOURCE")), StandardCharsets.ISO_8859_1);
        words(source);
        methods(source);
        Check.end("LanguageTest");
    }

    private static void face() {
        Class<?> c = GuiltySleep.class;
        Check.due("public and final", c.getModifiers(), Modifier.PUBLIC | Modifier.FINAL);
        Set<String> got = new TreeSet<>();
        Set<String> names = new TreeSet<>();
        for (Method m : c.getDeclaredMethods()) {
            if (!Modifier.isPrivate(m.getModifiers())) {
                got.add(m.toString().replaceAll("public |GuiltySleep\\.| throws .*", ""));
                names.add(m.getName());
            }
        }
        Set<String> want = new TreeSet<>(Arrays.asList(FACE));
        Check.due("the face is " + got, got.equals(want), true);
        for (Method m : c.getDeclaredMethods()) {
            if (Modifier.isPrivate(m.getModifiers())) {
                Check.due("private " + m.getName(), names.contains(m.getName()), false);
            }
        }
        for (Class<?> inner : c.getDeclaredClasses()) {
            Check.due(inner + " is static", Modifier.isStatic(inner.getModifiers()), true);
            for (Method m : inner.getDeclaredMethods()) {
                Check.due(inner + " " + m.getName(), names.contains(m.getName()), false);
            }
        }
        Constructor<?>[] makers = c.getDeclaredConstructors();
        Check.due("one constructor", makers.length, 1);
        Check.due("of nothing", makers[0].getParameterCount(), 0);
        Check.due("classes", c.getDeclaredClasses().length < 13, true);
    }

    private static void fields() {
        fieldsOf(GuiltySleep.class);
        for (Class<?> inner : GuiltySleep.class.getDeclaredClasses()) {
            fieldsOf(inner);
        }
    }

    private static void fieldsOf(Class<?> c) {
        int many = 0;
        for (Field f : c.getDeclaredFields()) {
            boolean constant = Modifier.isStatic(f.getModifiers());
            many += constant ? 0 : 1;
            Check.due(f + " is final", !constant || Modifier.isFinal(f.getModifiers()), true);
            boolean open = f.getName().equals("NONE") || f.getName().equals("HIDDEN");
            if (c == GuiltySleep.class) {
                Check.due(f + " is private", Modifier.isPrivate(f.getModifiers()), !open);
            }
        }
        Check.due("fields of " + c, many <= 20, true);
    }

    private static void words(String source) {
        String[] never = {"->", "::", "\\bfinally\\b", "\\bsynchronized\\b", "\\bassert\\b", "\\bcatch\\b", "\\bdouble\\b",
            "\\bfloat\\b", "\\binstanceof\\b", "Exact\\b", "\\bSystem\\.(?!arraycopy)", "\\bpackage\\b", "\\bvar\\b",
            "\\btoString\\b", "\\bhashCode\\b", "\\bequals\\b", "[^\\x00-\\x7f]", "\" *\\+", "\\+ *\""};
        for (String word : never) {
            Matcher m = Pattern.compile(word).matcher(source);
            Check.due("the source has " + word, m.find(), false);
        }
        Matcher imports = Pattern.compile("(?m)^import (.*);$").matcher(source);
        int many = 0;
        while (imports.find()) {
            many++;
            Check.due("import " + imports.group(1), imports.group(1).equals("java.util.NoSuchElementException"), true);
        }
        Check.due("imports", many, 1);
        Matcher thrown = Pattern.compile("\\bthrow\\b(?! new NoSuchElementException\\(\"[^\"]*\"\\);)").matcher(source);
        Check.due("other throws", thrown.find(), false);
        Matcher made = Pattern.compile("(?s)for \\([^\\n]*\\{[^}]*\\bnew \\w+\\[").matcher(source);
        Check.due("rows made in loops", made.find(), false);
    }

    private static void methods(String source) {
        Pattern head = Pattern.compile("^ {4}( {4})?(?:[\\w\\[\\]]+ )+?\\w+\\(([^)]*)\\)[^;]*\\{$");
        String[] lines = source.split("\n");
        int found = 0;
        for (int i = 0; i < lines.length; i++) {
            Matcher m = head.matcher(lines[i]);
            if (m.matches()) {
                found++;
                String close = (m.group(1) == null ? "    " : "        ") + "}";
                int end = i;
                while (end < lines.length && !lines[end].equals(close)) {
                    end++;
                }
                Check.due("lines of" + lines[i], end - i <= 60, true);
                Check.due("parameters of" + lines[i], m.group(2).split(",").length <= 7, true);
            }
        }
        Check.due("methods found", found > 100, true);
    }
}
