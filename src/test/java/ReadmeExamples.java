import java.io.IOException;
import java.lang.reflect.Method;
import java.lang.reflect.Modifier;
import java.nio.file.Files;
import java.nio.file.Path;
import java.util.ArrayList;
import java.util.List;
import java.util.regex.Matcher;
import java.util.regex.Pattern;

/**
 * Writes a program of the examples that README.md gives, so that they are compiled and run as they stand there.
 * A line of an example is a call and, behind //, its answer or "throws" and an exception, then a colon and words.
 * Ends with exit code 1 if a line is of another form, or a call of the class is shown by none.
 */
public final class ReadmeExamples {
    private static final String FIRST = "MarbleBench bench = new MarbleBench();";
    private static final Pattern LINE =
            Pattern.compile("(?:int (?<name>\\w+) = )?(?<call>bench\\..*\\));\\s*// (?:throws )?(?<due>-?\\w+)(?:: .*)?");

    private final StringBuilder program = new StringBuilder();
    private final List<String> faults = new ArrayList<>();

    private ReadmeExamples() {
    }

    public static void main(String[] args) throws IOException {
        ReadmeExamples examples = new ReadmeExamples();
        List<String> lines = examplesOf(Files.readAllLines(Path.of(args[0])));
        examples.write(lines);
        examples.demandEachCall(String.join("\n", lines));
        for (String fault : examples.faults) {
            System.err.println(fault);
        }
        System.out.print(examples.program);
        System.exit(examples.faults.isEmpty() ? 0 : 1);
    }

    private static List<String> examplesOf(List<String> readme) {
        List<String> lines = new ArrayList<>();
        boolean isExample = false;
        for (String line : readme) {
            if (line.startsWith("```")) {
                isExample = line.equals("```java");
            } else if (isExample && !line.isBlank()) {
                lines.add(line);
            }
        }
        return lines;
    }

    private void write(List<String> lines) {
        put("public final class ReadmeRun {");
        put("    private static int wrong;");
        put("    private static void due(String line, String due, Object got) {");
        put("        if (!due.equals(String.valueOf(got))) {");
        put("            wrong++;");
        put("            System.out.println(\"README.md: \" + line + \" answered \" + got + \", there stands \" + due);");
        put("        }");
        put("    }");
        put("    public static void main(String[] args) {");
        for (String line : lines) {
            example(line);
        }
        put("        System.out.println(\"" + lines.size() + " lines of examples, \" + wrong + \" wrong\");");
        put("        System.exit(wrong == 0 ? 0 : 1);");
        put("    }");
        put("}");
    }

    private void put(String line) {
        program.append(line).append('\n');
    }

    private void example(String line) {
        Matcher parts = LINE.matcher(line);
        if (line.equals(FIRST)) {
            put("        " + FIRST);
        } else if (!parts.matches()) {
            faults.add("README.md: no example of the form that is told in ReadmeExamples: " + line);
        } else {
            call(parts.group("name"), parts.group("call"), parts.group("due"));
        }
    }

    private void call(String name, String call, String due) {
        String told = "due(\"" + call + "\", \"" + due + "\", ";
        if (name != null) {
            put("        int " + name + " = " + call + ";");
            put("        " + told + name + ");");
        } else {
            put("        try {");
            put("            " + told + call + ");");
            put("        } catch (RuntimeException e) {");
            put("            " + told + "e.getClass().getSimpleName());");
            put("        }");
        }
    }

    private void demandEachCall(String examples) {
        for (Method method : MarbleBench.class.getDeclaredMethods()) {
            if (Modifier.isPublic(method.getModifiers()) && !examples.contains("bench." + method.getName() + "(")) {
                faults.add("README.md: no example calls " + method.getName());
            }
        }
    }
}
