import java.io.IOException;
import java.lang.reflect.Method;
import java.lang.reflect.Modifier;
import java.nio.file.Files;
import java.nio.file.Path;
import java.util.List;
import java.util.regex.Matcher;
import java.util.regex.Pattern;
import javax.tools.ToolProvider;

/** The example of README.md compiles, uses every call of the face, and has the answers that it tells. */
public final class ReadmeTest {
    private static final String MADE = "ReadmeExample";
    private static final String FIRST = "ProfileRights rights = new ProfileRights();";
    private static final Pattern LINE =
            Pattern.compile("(?:int (\\w+) = )?(rights\\.\\w+\\(.*\\)); +// (-?\\w+)(?:: .*)?");

    private ReadmeTest() {
    }

    public static void main(String[] args) throws IOException, ReflectiveOperationException {
        List<String> example = example(Files.readAllLines(Path.of("README.md")));
        Check.same("the first line is " + FIRST, Check.told(example.indexOf(FIRST) == 0), 1);
        usesEveryCall(String.join("\n", example));
        run(program(example));
        Check.end("ReadmeTest");
    }

    private static List<String> example(List<String> readme) {
        int first = readme.indexOf("```java") + 1;
        List<String> rest = readme.subList(first, readme.size());
        return rest.subList(0, rest.indexOf("```"));
    }

    private static void usesEveryCall(String example) {
        for (Method m : ProfileRights.class.getDeclaredMethods()) {
            if (Modifier.isPublic(m.getModifiers())) {
                Check.same("uses " + m.getName(), Check.told(example.contains("rights." + m.getName() + "(")), 1);
            }
        }
    }

    private static String program(List<String> example) {
        StringBuilder s = new StringBuilder();
        s.append("public final class ").append(MADE).append(" { public static void main(String[] args) {\n");
        for (String line : example) {
            boolean plain = line.isBlank() || line.equals(FIRST);
            s.append(plain ? line : tested(line)).append('\n');
        }
        return s.append("} }\n").toString();
    }

    private static String tested(String line) {
        Matcher m = LINE.matcher(line);
        boolean told = m.matches();
        Check.same("a call and its answer: " + line, Check.told(told), 1);
        if (!told) {
            return "";
        }
        String what = "\"" + line.replace("\"", "\\\"") + "\"";
        String answer = m.group(3);
        String due = due(answer);
        if (m.group(1) != null) {
            return "int " + m.group(1) + " = " + m.group(2) + "; Check.same(" + what + ", " + m.group(1) + ", " + due + ");";
        }
        boolean yesOrNo = answer.equals("true") || answer.equals("false");
        String call = yesOrNo ? "Check.told(" + m.group(2) + ")" : m.group(2);
        return "Check.same(" + what + ", " + due + ", () -> " + call + ");";
    }

    private static String due(String answer) {
        switch (answer) {
            case "NONE": return "ProfileRights.NONE";
            case "true": return "1";
            case "false": return "0";
            case "IllegalArgumentException": return "Check.ARGUMENT";
            case "IllegalStateException": return "Check.STATE";
            default: return answer;
        }
    }

    /** Compiled beside this test's own classes, as Check is seen from there alone. */
    private static void run(String program) throws IOException, ReflectiveOperationException {
        String place = System.getProperty("java.class.path");
        Path source = Files.writeString(Path.of(place, MADE + ".java"), program);
        int wrong = ToolProvider.getSystemJavaCompiler().run(null, null, null,
                "--release", "17", "-cp", place, "-d", place, source.toString());
        Check.same("compiling the example", wrong, 0);
        if (wrong == 0) {
            Class.forName(MADE).getMethod("main", String[].class).invoke(null, (Object) new String[0]);
        }
    }
}
