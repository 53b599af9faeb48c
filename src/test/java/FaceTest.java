import java.io.IOException;
import java.lang.reflect.Constructor;
import java.lang.reflect.Field;
import java.lang.reflect.Method;
import java.lang.reflect.Modifier;
import java.nio.file.Files;
import java.nio.file.Path;
import java.util.ArrayList;
import java.util.List;
import java.util.Set;
import java.util.TreeSet;
import java.util.regex.Matcher;
import java.util.regex.Pattern;

/** The face is that of the document, and the file keeps those rules of LANGUAGE.md that can be seen by words. */
public final class FaceTest {
    private static final Check CHECK = new Check("FaceTest");

    private static final String[] FACE = {"int player(int,int)", "int event(char,int,int)",
        "char clock(int,char,int,int,int)", "int join(int,int)", "int withdraw(int,int)", "int close(int)",
        "int pair(int)", "int rounds(int)", "int playerOf(int,boolean)", "int bye(int,int)",
        "char move(int,int,int)", "boolean isLegal(int,int)", "int time(int,boolean)", "int periods(int,boolean)",
        "int end(int,char)", "char adjudge(int)", "char best(int)", "char correct(int,char)", "char result(int)",
        "int points(int,int)", "int tieBreak(int,int,int)", "int rank(int,int)", "int ranked(int,int)",
        "int weight(int)", "int day()", "int rating(int)", "int ratingOn(int,int)", "int rated(int)",
        "int norms(int)", "boolean isTitled(int)", "int agree(int,int,int)", "double odds(int)",
        "boolean suspect(int,int)", "int lift(int)", "boolean isBanned(int)", "int mark(int)", "int overall(int)",
        "int prize(int,int)", "int share(int,int)", "float overShare()", "long checksum()", "boolean isSound()"};

    private static final String[] BARRED = {"->", "::", "finally", "synchronized", "assert", "catch", "instanceof",
        "Object", "Exact(", "import java.util.*", "System.", "Thread", "Random", "Arrays", "long[][]", "Math.round",
        "equals(", "toString(", "hashCode(", "record ", "package ", "\" +", "+ \"", "while (true", "for (;;"};

    public static void main(String[] args) throws IOException {
        methods();
        members();
        insideClasses();
        String source = Files.readString(Path.of("src/main/java/MindFest.java"));
        words(source);
        imports(source);
        sizes(source);
        CHECK.close();
    }

    private static String signature(Method method) {
        List<String> types = new ArrayList<>();
        for (Class<?> type : method.getParameterTypes()) {
            types.add(type.getSimpleName());
        }
        return method.getReturnType().getSimpleName() + " " + method.getName() + "(" + String.join(",", types) + ")";
    }

    private static void methods() {
        Set<String> due = new TreeSet<>(List.of(FACE));
        Set<String> names = new TreeSet<>();
        for (String line : FACE) {
            names.add(line.substring(line.indexOf(' ') + 1, line.indexOf('(')));
        }
        Set<String> got = new TreeSet<>();
        for (Method method : MindFest.class.getDeclaredMethods()) {
            if (Modifier.isPublic(method.getModifiers())) {
                got.add(signature(method));
                CHECK.no("static " + method.getName(), Modifier.isStatic(method.getModifiers()));
            } else if (!method.isSynthetic()) {
                CHECK.yes("private " + method.getName(), Modifier.isPrivate(method.getModifiers()));
                CHECK.no("the name of a public one: " + method.getName(), names.contains(method.getName()));
            }
        }
        CHECK.is("the public methods", got, due);
        for (Class<?> inside : MindFest.class.getDeclaredClasses()) {
            for (Method method : inside.getDeclaredMethods()) {
                CHECK.no("the name of a public one: " + method.getName(), names.contains(method.getName()));
            }
        }
    }

    private static void members() {
        CHECK.yes("public final", Modifier.isPublic(MindFest.class.getModifiers())
                && Modifier.isFinal(MindFest.class.getModifiers()));
        for (Field field : MindFest.class.getDeclaredFields()) {
            CHECK.yes("private " + field.getName(), Modifier.isPrivate(field.getModifiers()));
            CHECK.yes("static means final: " + field.getName(), !Modifier.isStatic(field.getModifiers())
                    || Modifier.isFinal(field.getModifiers()));
        }
        Constructor<?>[] constructors = MindFest.class.getDeclaredConstructors();
        CHECK.is("constructors", constructors.length, 1);
        CHECK.is("parameters of it", constructors[0].getParameterCount(), 0);
        CHECK.yes("a public one", Modifier.isPublic(constructors[0].getModifiers()));
    }

    private static void insideClasses() {
        Class<?>[] inside = MindFest.class.getDeclaredClasses();
        CHECK.yes("some twelve classes", inside.length <= 11);
        for (Class<?> one : inside) {
            CHECK.yes("static " + one, Modifier.isStatic(one.getModifiers()));
            CHECK.no("public " + one, Modifier.isPublic(one.getModifiers()));
            int fields = 0;
            for (Field field : one.getDeclaredFields()) {
                fields += Modifier.isStatic(field.getModifiers()) ? 0 : 1;
            }
            CHECK.yes("some twenty fields of " + one, fields <= 20);
            for (Method method : one.getDeclaredMethods()) {
                CHECK.yes("seven parameters of " + method, method.getParameterCount() <= 7);
            }
        }
    }

    private static void words(String source) {
        String code = source.replaceAll("//[^\n]*|/\\*(?s:.*?)\\*/", "");
        for (String word : BARRED) {
            CHECK.no("the word " + word, code.contains(word));
        }
        Matcher made = Pattern.compile("throw (?!new [A-Za-z]+Exception\\(\"[^\"]*\"\\);)[^\n]*").matcher(code);
        CHECK.no("throw without a written text", made.find());
        for (char sign : source.toCharArray()) {
            if (sign > 126) {
                CHECK.is("a sign", (int) sign, 126);
            }
        }
    }

    private static void imports(String source) {
        Matcher line = Pattern.compile("(?m)^import ([^;]*);").matcher(source);
        while (line.find()) {
            CHECK.is("import", line.group(1), "java.util.NoSuchElementException");
        }
    }

    /** No method is longer than some sixty lines: a method begins and ends at the same indentation. */
    private static void sizes(String source) {
        String[] lines = source.split("\n");
        int begin = 0;
        for (int i = 0; i < lines.length; i++) {
            if (lines[i].matches(" {4,8}[a-zA-Z].*[({]$") && !lines[i].contains("class ")) {
                begin = i;
            }
            if (lines[i].matches(" {4,8}\\}")) {
                CHECK.yes("lines up to line " + (i + 1), i - begin <= 60);
            }
        }
    }
}
