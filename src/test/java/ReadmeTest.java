import java.io.IOException;
import java.lang.reflect.Field;
import java.lang.reflect.Method;
import java.lang.reflect.Modifier;
import java.nio.file.Files;
import java.nio.file.Path;
import java.util.List;
import java.util.Set;
import java.util.TreeSet;
import java.util.regex.Matcher;
import java.util.regex.Pattern;
import javax.tools.JavaCompiler;
import javax.tools.ToolProvider;

/** What README.md shows of calls and answers is so: its blocks are made into a program, which is compiled and run. */
public final class ReadmeTest {
    private static final Pattern NO_ANSWER = Pattern.compile(
        "LogicSmith s = new LogicSmith\\(\\);|for \\(.*\\) s\\.\\w+\\(.*\\);");
    private static final Pattern CALL = Pattern.compile(
        "(?:int (\\w+) = )?(s\\.(\\w+)\\(.*\\)); +// (-?\\d+|[A-Z]+)(?:: \\S.*)?");
    private static final Pattern CONSTANT = Pattern.compile("\\| `([A-Z]+)` \\| (-\\d+) \\|.*");
    private static final Due DUE = new Due();

    private final Set<String> called = new TreeSet<>();

    /** The blocks of Java, each line of them followed by the question whether its answer is the one that is shown. */
    private String program(List<String> lines) {
        StringBuilder text = new StringBuilder("final class ReadmeRun {\n    static void run(Due due) {\n");
        boolean within = false;
        for (String line : lines) {
            if (line.equals("```java")) {
                within = true;
                text.append("        {\n");
            } else if (within && line.equals("```")) {
                within = false;
                text.append("        }\n");
            } else if (within) {
                text.append("            ").append(asked(line)).append('\n');
            }
        }
        return text.append("    }\n}\n").toString();
    }

    private String asked(String line) {
        Matcher call = CALL.matcher(line);
        if (!call.matches()) {
            DUE.is("README shows no answer: " + line, NO_ANSWER.matcher(line).matches() ? 1 : 0, 1);
            return line;
        }
        called.add(call.group(3));
        String due = Character.isLetter(call.group(4).charAt(0)) ? "LogicSmith." + call.group(4) : call.group(4);
        String title = "\"README: " + line.replace("\\", "\\\\").replace("\"", "\\\"") + "\"";
        String name = call.group(1);
        String made = name == null ? "" : "int " + name + " = " + call.group(2) + "; ";
        return made + "due.is(" + title + ", " + (name == null ? call.group(2) : name) + ", " + due + ");";
    }

    /** The program stands beside the classes of this test, so that it sees them. */
    private static void run(String program) throws IOException, ReflectiveOperationException {
        String classes = System.getProperty("java.class.path");
        Path file = Path.of(classes, "ReadmeRun.java");
        Files.writeString(file, program);
        JavaCompiler compiler = ToolProvider.getSystemJavaCompiler();
        if (compiler == null) {
            throw new IllegalStateException("this java has no compiler: run the test with that of a JDK");
        }
        int wrong = compiler.run(null, null, null, "-cp", classes, "-d", classes, file.toString());
        DUE.is("README's lines compile", wrong, 0);
        if (wrong == 0) {
            Method run = Class.forName("ReadmeRun").getDeclaredMethod("run", Due.class);
            run.invoke(null, DUE);
        }
    }

    private void allCalls() {
        for (Method m : LogicSmith.class.getDeclaredMethods()) {
            if (Modifier.isPublic(m.getModifiers())) {
                DUE.is("README shows a call of " + m.getName(), called.contains(m.getName()) ? 1 : 0, 1);
            }
        }
    }

    private static void constants(List<String> lines) throws ReflectiveOperationException {
        int shown = 0;
        for (String line : lines) {
            Matcher constant = CONSTANT.matcher(line);
            if (constant.matches()) {
                Field field = LogicSmith.class.getField(constant.group(1));
                DUE.is("README: " + line, field.getInt(null), Integer.parseInt(constant.group(2)));
                shown++;
            }
        }
        DUE.is("constants that README shows", shown, LogicSmith.class.getFields().length);
    }

    public static void main(String[] args) throws IOException, ReflectiveOperationException {
        List<String> lines = Files.readAllLines(Path.of("README.md"));
        ReadmeTest test = new ReadmeTest();
        run(test.program(lines));
        test.allCalls();
        constants(lines);
        DUE.end();
    }
}
