import java.io.IOException;
import java.lang.reflect.Method;
import java.lang.reflect.Modifier;
import java.nio.file.Files;
import java.nio.file.Path;
import java.util.ArrayList;
import java.util.List;
import java.util.Set;
import java.util.TreeSet;
import java.util.regex.Matcher;
import java.util.regex.Pattern;

/**
 * Writes the calls that README.md shows as a test, ReadmeCallsTest, so that what is compiled and run is what stands
 * there. A comment behind a call begins with its answer, or with "throws" and an exception; a colon ends that.
 */
public final class ReadmeCalls {
    private static final String OBJECT = "ShadeRows rows = new ShadeRows();";
    private static final Pattern CALL =
            Pattern.compile("(?:(int|double) (\\w+) = )?(rows\\.(\\w+)\\([^;]*\\)); +// ([^:]+)(?::.*)?");
    private static final Pattern RAISED = Pattern.compile("throws (\\w+)");

    private final List<String> faults = new ArrayList<>();
    private final List<String> statements = new ArrayList<>();
    private final Set<String> shown = new TreeSet<>();

    /** README.md, and the file to write. */
    public static void main(String[] args) throws IOException {
        ReadmeCalls calls = new ReadmeCalls();
        calls.read(Files.readAllLines(Path.of(args[0])));
        calls.lookForFace();
        for (String fault : calls.faults) {
            System.out.println("the calls of README.md: " + fault);
        }
        if (!calls.faults.isEmpty()) {
            System.exit(1);
        }
        Files.writeString(Path.of(args[1]), calls.source());
    }

    /** A call outside of a block of Java is taken, too, so that none is shown without being made. */
    private void read(List<String> lines) {
        boolean inside = false;
        for (int i = 0; i < lines.size(); i++) {
            String line = lines.get(i).strip();
            if (line.startsWith("```")) {
                inside = line.equals("```java");
            } else if ((inside || line.contains("rows.")) && !line.isEmpty()) {
                take(line, "line " + (i + 1));
            }
        }
    }

    private void take(String line, String where) {
        Matcher call = CALL.matcher(line);
        if (line.equals(OBJECT)) {
            statements.add(line);
        } else if (call.matches()) {
            shown.add(call.group(4));
            add(call, where + ": " + call.group(3));
        } else {
            faults.add(where + " is no call with its answer: " + line);
        }
    }

    private void add(Matcher call, String what) {
        String name = call.group(2);
        String quoted = '"' + what.replace("\\", "\\\\").replace("\"", "\\\"") + '"';
        Matcher raised = RAISED.matcher(call.group(5).strip());
        if (raised.matches()) {
            statements.add("check.raises(" + quoted + ", " + raised.group(1) + ".class, () -> " + call.group(3) + ");");
            return;
        }
        if (name != null) {
            statements.add(call.group(1) + " " + name + " = " + call.group(3) + ";");
        }
        String got = name != null ? name : call.group(3);
        statements.add("check.same(" + quoted + ", " + got + ", " + call.group(5).strip() + ");");
    }

    /** A call that is nowhere shown would leave how to use it untold. */
    private void lookForFace() {
        for (Method method : ShadeRows.class.getDeclaredMethods()) {
            if (Modifier.isPublic(method.getModifiers()) && !shown.contains(method.getName())) {
                faults.add(method.getName() + " is not shown with an answer");
            }
        }
    }

    private String source() {
        StringBuilder source = new StringBuilder("import java.util.NoSuchElementException;\n\n");
        source.append("public final class ReadmeCallsTest {\n    public static void main(String[] args) {\n");
        source.append("        Check check = new Check(\"the calls of README.md\");\n");
        for (String statement : statements) {
            source.append("        ").append(statement).append('\n');
        }
        return source.append("        check.end();\n    }\n}\n").toString();
    }
}
