import java.io.IOException;
import java.lang.reflect.Field;
import java.lang.reflect.Method;
import java.lang.reflect.Modifier;
import java.nio.charset.StandardCharsets;
import java.nio.file.Files;
import java.nio.file.Path;
import java.util.ArrayList;
import java.util.List;
import java.util.Set;
import java.util.TreeSet;
import java.util.regex.MatchResult;

/** The public face as the document tells it, against the compiled class, and the parts it is told in, against the source. */
final class FaceEdges {
    private final Edges edges;
    private final String source;

    FaceEdges(Edges edges, Path file) throws IOException {
        this.edges = edges;
        source = Files.readString(file, StandardCharsets.ISO_8859_1);
    }

    void play() {
        String told = edges.document.between("```java ", " ```");
        edges.document.mark(told, edges.check);
        edges.check.isTrue("the face is told as one class", told.startsWith("public final class SleepHarbour {") && told.endsWith("}"));
        Set<String> due = new TreeSet<>();
        for (String line : told.substring(told.indexOf('{') + 1, told.length() - 1).split(";")) {
            addTold(line.strip(), due);
        }
        Set<String> seen = seen();
        edges.check.isTrue("the class has the document's face and no more: " + seen + " for " + due, seen.equals(due));
        signatures(due);
        parts();
    }

    /** One line of the face, without the names of what is handed over. */
    private static void addTold(String line, Set<String> due) {
        if (line.startsWith("public static final int ")) {
            for (String constant : line.substring("public static final int ".length()).split(",")) {
                due.add("static final int " + constant.strip());
            }
        } else if (!line.isEmpty()) {
            due.add(line.replaceFirst("^public ", "").replaceAll("(int|long|boolean) \\w+(?=[,)])", "$1"));
        }
    }

    private static Set<String> seen() {
        Set<String> seen = new TreeSet<>();
        for (Method m : SleepHarbour.class.getMethods()) {
            if (m.getDeclaringClass() == SleepHarbour.class) {
                List<String> types = new ArrayList<>();
                for (Class<?> type : m.getParameterTypes()) {
                    types.add(type.getSimpleName());
                }
                seen.add(m.getReturnType().getSimpleName() + " " + m.getName() + "(" + String.join(", ", types) + ")");
            }
        }
        for (Field f : SleepHarbour.class.getFields()) {
            try {
                seen.add(Modifier.toString(f.getModifiers() & ~Modifier.PUBLIC) + " int " + f.getName() + " = " + f.getInt(null));
            } catch (IllegalAccessException e) {
                throw new IllegalStateException(e);
            }
        }
        if (SleepHarbour.class.getConstructors().length == 1 && SleepHarbour.class.getConstructors()[0].getParameterCount() == 0) {
            seen.add("SleepHarbour()");
        }
        return seen;
    }

    /** The call that each promise tells must be one of the face, each but once. */
    private void signatures(Set<String> due) {
        Set<String> promised = new TreeSet<>();
        for (int promise = 1; promise <= 28; promise++) {
            String[] words = edges.document.promise(promise).split("`");
            String call = words.length > 1 ? words[1] : "";
            edges.document.mark("`" + call + "`:", edges.check);
            String bare = call.replaceAll("(int|long|boolean) \\w+(?=[,)])", "$1");
            edges.check.isTrue("promise " + promise + " is of the face: " + call, due.contains(bare) && promised.add(bare));
        }
        edges.check.due("calls of the face that a promise tells", promised.size(), due.size() - 5);
    }

    /** "Ahead of the calls .. the interface says: ---- .." */
    private void parts() {
        List<MatchResult> parts = edges.document.all("Ahead of the calls ([^:]*) the interface says: (---- [a-z, ]+)\\.");
        edges.check.due("parts of the face", parts.size(), 6);
        int at = 0;
        for (MatchResult part : parts) {
            edges.document.mark(part.group(), edges.check);
            int from = source.indexOf("// " + part.group(2) + "\n", at);
            edges.check.isTrue("the source has " + part.group(2) + " behind what is told ahead of it", from >= 0);
            int next = source.indexOf("// ----", from + 1);
            for (String call : part.group(1).split(", ")) {
                int found = source.indexOf(" " + call.replace("`", "") + "(", from);
                edges.check.isTrue("under " + part.group(2) + " stands " + call, found > at && found < next);
                at = Math.max(at, found);
            }
        }
    }
}
