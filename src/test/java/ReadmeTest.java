import java.io.IOException;
import java.lang.invoke.MethodHandles;
import java.lang.reflect.InvocationTargetException;
import java.lang.reflect.Method;
import java.lang.reflect.Modifier;
import java.net.URI;
import java.nio.file.Files;
import java.nio.file.Path;
import java.util.ArrayList;
import java.util.List;
import java.util.regex.Matcher;
import java.util.regex.Pattern;
import javax.tools.JavaCompiler;
import javax.tools.JavaFileObject;
import javax.tools.SimpleJavaFileObject;
import javax.tools.ToolProvider;

/** What README.md shows of the class's use, as it stands there: its lines of Java are compiled and run in a row. */
public final class ReadmeTest {
    private static final Check CHECK = new Check("ReadmeTest");
    private static final Path MADE = Path.of("build/readme");
    private static final Pattern ANSWERED = Pattern.compile("(.*); *// = (.*)");
    private static final Pattern THROWN = Pattern.compile("(.*); *// throws (.*)");
    private static final Pattern NAMED = Pattern.compile("\\w+ (\\w+) = .*");

    public static void main(String[] args) throws IOException, ReflectiveOperationException {
        List<String> shown = block("java");
        CHECK.yes("lines of use: " + shown.size(), shown.size() > 40);
        everyMethodIsShown(shown);
        run(shown);
        commands();
        CHECK.close();
    }

    /** The lines of all blocks of a kind. */
    private static List<String> block(String kind) throws IOException {
        List<String> lines = new ArrayList<>();
        boolean isInside = false;
        for (String line : Files.readAllLines(Path.of("README.md"))) {
            if (line.startsWith("```")) {
                isInside = line.equals("```" + kind);
            } else if (isInside && !line.isBlank()) {
                lines.add(line);
            }
        }
        return lines;
    }

    private static void everyMethodIsShown(List<String> shown) {
        String all = String.join("\n", shown);
        for (Method method : MindFest.class.getDeclaredMethods()) {
            if (Modifier.isPublic(method.getModifiers())) {
                CHECK.yes("shown: " + method.getName(), all.contains("fest." + method.getName() + "("));
            }
        }
    }

    private static void run(List<String> shown) throws IOException, ReflectiveOperationException {
        StringBuilder source = new StringBuilder("import java.util.NoSuchElementException;\n"
                + "public final class Shown { public static void run(Check check) {\n");
        for (String line : shown) {
            source.append(looked(line)).append('\n');
        }
        boolean isCompiled = compile(source.append("} }\n").toString());
        CHECK.yes("README.md compiles", isCompiled);
        if (!isCompiled) {
            return;
        }
        // It uses Check, which is not public, and so has to come from the loader of Check.
        Class<?> use = MethodHandles.lookup().defineClass(Files.readAllBytes(MADE.resolve("Shown.class")));
        try {
            use.getDeclaredMethod("run", Check.class).invoke(null, CHECK);
        } catch (InvocationTargetException thrown) {
            CHECK.is("what README.md shows throws", thrown.getCause(), "nothing");
        }
    }

    /** The line of Java that looks at what a line of README.md answers or throws. */
    private static String looked(String line) {
        String label = '"' + line.replace("\\", "\\\\").replace("\"", "\\\"").replaceAll(" +", " ") + '"';
        Matcher answered = ANSWERED.matcher(line);
        Matcher thrown = THROWN.matcher(line);
        if (answered.matches()) {
            Matcher named = NAMED.matcher(answered.group(1));
            boolean isNamed = named.matches();
            return (isNamed ? answered.group(1) + "; " : "") + "check.is(" + label + ", "
                    + (isNamed ? named.group(1) : answered.group(1)) + ", " + answered.group(2) + ");";
        }
        if (thrown.matches()) {
            return "check.fails(" + label + ", " + thrown.group(2) + ".class, () -> " + thrown.group(1) + ");";
        }
        CHECK.is("a line that tells no answer", line, "MindFest fest = new MindFest();");
        return line;
    }

    private static boolean compile(String source) throws IOException {
        Files.createDirectories(MADE);
        JavaCompiler compiler = ToolProvider.getSystemJavaCompiler();
        JavaFileObject file = new SimpleJavaFileObject(URI.create("string:///Shown.java"), JavaFileObject.Kind.SOURCE) {
            @Override
            public CharSequence getCharContent(boolean ignoreErrors) {
                return source;
            }
        };
        List<String> options = List.of("-d", MADE.toString(), "-cp", System.getProperty("java.class.path"));
        return compiler.getTask(null, null, null, options, null, List.of(file)).call();
    }

    private static void commands() throws IOException {
        List<String> commands = block("sh");
        CHECK.yes("tests are run by .ci/run", commands.contains(".ci/run") && Files.isExecutable(Path.of(".ci/run")));
        for (String command : commands) {
            if (command.startsWith("java ")) {
                String name = command.substring(command.lastIndexOf(' ') + 1);
                CHECK.yes("a test of its own: " + command, Files.exists(Path.of("src/test/java/" + name + ".java")));
            }
        }
    }
}
