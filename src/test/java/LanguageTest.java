import java.io.IOException;
import java.lang.reflect.Constructor;
import java.lang.reflect.Field;
import java.lang.reflect.Method;
import java.lang.reflect.Modifier;
import java.nio.charset.StandardCharsets;
import java.nio.file.Files;
import java.nio.file.Path;
import java.util.ArrayList;
import java.util.Arrays;
import java.util.List;
import java.util.Set;
import java.util.TreeSet;
import java.util.regex.Matcher;
import java.util.regex.Pattern;

/** The public face, and those rules of LANGUAGE.md that can be seen in the source or the compiled class. */
public final class LanguageTest {
    private static final Check CHECK = new Check("LanguageTest");
    private static final String[] FACE = {
        "int write(int)", "int wipe()", "int fault()", "int port()", "int about(int)", "int berth(int,int)",
        "int dream(int,int)", "int night()", "int moor(int,int)", "int tow(int)", "int undo()",
        "int later(int,int)", "int wakes(int,int)", "int fits(int,int)", "int soonest(int)",
        "int plan(boolean)", "int judge(int,long)", "int share(int,boolean)", "int sound(int,int,int)",
        "int unsound()", "int depths(int)", "int rests(int,int,int)", "int ebb(int,int,boolean)",
        "long seed(long)", "int years(int)", "int keep(int)", "int again(int)"};
    private static final Set<String> LIBRARY = Set.of(
        "Math.max", "Math.min", "Math.abs", "Math.floorMod", "Integer.bitCount", "System.arraycopy");

    public static void main(String[] args) throws IOException {
        face();
        members(SleepHarbour.class, publicNames());
        Class<?>[] inside = SleepHarbour.class.getDeclaredClasses();
        CHECK.isTrue("rule 11: some twelve classes", inside.length <= 12);
        for (Class<?> c : inside) {
            CHECK.isTrue("rule 2: static, " + c.getName(), Modifier.isStatic(c.getModifiers()));
            members(c, publicNames());
        }
        String file = args.length > 0 ? args[0] : "src/main/java/SleepHarbour.java";
        String source = Files.readString(Path.of(file), StandardCharsets.ISO_8859_1);
        words(bare(source));
        methods(bare(source));
        CHECK.end();
    }

    private static Set<String> publicNames() {
        Set<String> names = new TreeSet<>();
        for (String call : FACE) {
            names.add(call.substring(call.indexOf(' ') + 1, call.indexOf('(')));
        }
        return names;
    }

    private static void face() {
        Class<?> c = SleepHarbour.class;
        CHECK.due("rule 1: public and final alone", c.getModifiers(), Modifier.PUBLIC | Modifier.FINAL);
        Set<String> seen = new TreeSet<>();
        for (Method m : c.getDeclaredMethods()) {
            if (!Modifier.isPrivate(m.getModifiers()) && !m.isSynthetic()) {
                CHECK.due("rule 1: public alone, " + m.getName(), m.getModifiers(), Modifier.PUBLIC);
                List<String> types = new ArrayList<>();
                for (Class<?> type : m.getParameterTypes()) {
                    types.add(type.getSimpleName());
                }
                seen.add(m.getReturnType().getSimpleName() + " " + m.getName() + "(" + String.join(",", types) + ")");
            }
        }
        Set<String> due = new TreeSet<>(Arrays.asList(FACE));
        CHECK.isTrue("rule 1: the document's methods and no others: " + seen, seen.equals(due));
        constants(c);
        Constructor<?>[] made = c.getDeclaredConstructors();
        CHECK.isTrue("rule 1: one constructor, public, of nothing",
            made.length == 1 && made[0].getParameterCount() == 0 && Modifier.isPublic(made[0].getModifiers()));
    }

    private static void constants(Class<?> c) {
        int constant = Modifier.PUBLIC | Modifier.STATIC | Modifier.FINAL;
        Set<String> names = new TreeSet<>();
        for (Field f : c.getDeclaredFields()) {
            if (!Modifier.isPrivate(f.getModifiers())) {
                CHECK.due("rule 1: a constant, " + f.getName(), f.getModifiers(), constant);
                names.add(f.getName());
            }
        }
        Set<String> due = Set.of("UNKNOWN", "BAD", "LATE", "FULL", "NONE");
        CHECK.isTrue("rule 1: the document's constants", names.equals(due));
        CHECK.due("UNKNOWN", SleepHarbour.UNKNOWN, -1);
        CHECK.due("BAD", SleepHarbour.BAD, -2);
        CHECK.due("LATE", SleepHarbour.LATE, -3);
        CHECK.due("FULL", SleepHarbour.FULL, -4);
        CHECK.due("NONE", SleepHarbour.NONE, -9);
    }

    private static void members(Class<?> c, Set<String> publicNames) {
        int fields = 0;
        for (Field f : c.getDeclaredFields()) {
            if (Modifier.isStatic(f.getModifiers())) {
                CHECK.isTrue("rule 5: final, " + f, Modifier.isFinal(f.getModifiers()));
            } else {
                fields++;
            }
        }
        CHECK.isTrue("rule 11: some twenty fields, " + c, fields <= 20);
        for (Method m : c.getDeclaredMethods()) {
            CHECK.isTrue("rule 11: seven parameters, " + m, m.getParameterCount() <= 7);
            boolean isFace = c == SleepHarbour.class && Modifier.isPublic(m.getModifiers());
            CHECK.isTrue("rule 1: no name of a public one, " + m, isFace || !publicNames.contains(m.getName()));
        }
    }

    /** The source without comments and without what stands in quotes. */
    private static String bare(String source) {
        return source.replaceAll("(?s)/\\*.*?\\*/", "").replaceAll("//[^\n]*", "")
            .replaceAll("'(\\\\.|[^'\\\\])'", "'x'").replaceAll("\"(\\\\.|[^\"\\\\])*\"", "\"\"");
    }

    private static void absent(String rule, String pattern, String source) {
        Matcher m = Pattern.compile(pattern).matcher(source);
        CHECK.isTrue(rule + ": no " + pattern, !m.find());
    }

    private static void words(String source) {
        for (String word : new String[] {"throw", "throws", "try", "catch", "finally", "synchronized", "assert"}) {
            absent("rule 6", "\\b" + word + "\\b", source);
        }
        absent("rule 2", "->|::", source);
        absent("rule 4", "\\b(import|package|java\\.|Object|var)\\b", source);
        absent("rule 3", "\\b(double|float|Thread|Random)\\b", source);
        absent("rule 5", "\\bstatic\\s*\\{", source);
        absent("rule 9", "\\bwhile\\s*\\(\\s*true|for\\s*\\(\\s*;\\s*;", source);
        Matcher calls = Pattern.compile("\\b(Math|Integer|Long|System|Arrays|String)\\.(\\w+)").matcher(source);
        while (calls.find()) {
            CHECK.isTrue("rule 4: " + calls.group(), LIBRARY.contains(calls.group()));
        }
        Matcher made = Pattern.compile("(?m)^.*\\bnew\\b.*$").matcher(source);
        while (made.find()) {
            String line = made.group().strip();
            CHECK.isTrue("rule 12: made once, in a constructor: " + line,
                line.matches("(private )?final .* = new .*;") || line.matches("\\w+\\[\\w+] = new Harbour\\(told\\);"));
        }
    }

    private static void methods(String source) {
        String[] lines = source.split("\n");
        int begun = -1;
        for (int i = 0; i < lines.length; i++) {
            if (lines[i].matches(" {4,8}[^ }=;]*.*\\) \\{") && !lines[i].matches(" *(for|if|while|switch|}).*")) {
                begun = i;
            }
            if (lines[i].matches(" {4,8}}") && begun >= 0) {
                CHECK.isTrue("rule 11: a short method, line " + (begun + 1), i - begun <= 60);
                begun = -1;
            }
        }
    }
}
