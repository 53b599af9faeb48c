import java.io.IOException;
import java.lang.reflect.Constructor;
import java.lang.reflect.Field;
import java.lang.reflect.Method;
import java.lang.reflect.Modifier;
import java.nio.file.Files;
import java.nio.file.Path;
import java.util.ArrayList;
import java.util.List;
import java.util.Set;
import java.util.TreeSet;

/** The face is that of the document, and nothing but it is to be seen of the class. */
public final class FaceTest {
    private static final Check CHECK = new Check("FaceTest");

    public static void main(String[] args) throws IOException {
        Document document = new Document();
        CHECK.is("members of the document's face", document.face().size(), 43);
        face(document);
        names();
        members();
        headings(document);
        CHECK.close();
    }

    private static String signature(String begin, Class<?>[] parameters, Class<?>[] thrown) {
        List<String> types = new ArrayList<>();
        for (Class<?> type : parameters) {
            types.add(type.getSimpleName());
        }
        List<String> exceptions = new ArrayList<>();
        for (Class<?> type : thrown) {
            exceptions.add(type.getSimpleName());
        }
        return begin + "(" + String.join(",", types) + ")"
                + (exceptions.isEmpty() ? "" : " throws " + String.join(", ", exceptions));
    }

    /** Each member with its types and its exceptions, in their order. */
    private static void face(Document document) {
        Set<String> got = new TreeSet<>();
        for (Method method : MindFest.class.getDeclaredMethods()) {
            if (Modifier.isPublic(method.getModifiers())) {
                got.add(signature(method.getReturnType().getSimpleName() + " " + method.getName(),
                        method.getParameterTypes(), method.getExceptionTypes()));
            }
        }
        for (Constructor<?> constructor : MindFest.class.getConstructors()) {
            got.add(signature("MindFest", constructor.getParameterTypes(), constructor.getExceptionTypes()));
        }
        CHECK.is("the face", String.join("\n", got), String.join("\n", new TreeSet<>(document.face())));
    }

    private static void names() {
        Set<String> names = new TreeSet<>();
        for (Method method : MindFest.class.getDeclaredMethods()) {
            if (Modifier.isPublic(method.getModifiers())) {
                CHECK.no("static " + method.getName(), Modifier.isStatic(method.getModifiers()));
                names.add(method.getName());
            }
        }
        for (Method method : MindFest.class.getDeclaredMethods()) {
            if (!Modifier.isPublic(method.getModifiers()) && !method.isSynthetic()) {
                CHECK.yes("private " + method.getName(), Modifier.isPrivate(method.getModifiers()));
                CHECK.no("the name of a public one: " + method.getName(), names.contains(method.getName()));
            }
        }
        for (Class<?> inside : MindFest.class.getDeclaredClasses()) {
            CHECK.yes("static " + inside, Modifier.isStatic(inside.getModifiers()));
            CHECK.no("to be seen: " + inside, Modifier.isPublic(inside.getModifiers())
                    || Modifier.isProtected(inside.getModifiers()));
            for (Method method : inside.getDeclaredMethods()) {
                CHECK.no("the name of a public one: " + method.getName(), names.contains(method.getName()));
            }
        }
    }

    private static void members() {
        CHECK.yes("public final", Modifier.isPublic(MindFest.class.getModifiers())
                && Modifier.isFinal(MindFest.class.getModifiers()));
        CHECK.is("a class of its own", MindFest.class.getSuperclass(), Object.class);
        CHECK.is("interfaces", MindFest.class.getInterfaces().length, 0);
        for (Field field : MindFest.class.getDeclaredFields()) {
            CHECK.yes("private " + field.getName(), Modifier.isPrivate(field.getModifiers()));
            CHECK.yes("static means final: " + field.getName(), !Modifier.isStatic(field.getModifiers())
                    || Modifier.isFinal(field.getModifiers()));
        }
        CHECK.is("constructors", MindFest.class.getDeclaredConstructors().length, 1);
    }

    /** Ahead of the calls of each kind the source says what the document says, and they stand in its order. */
    private static void headings(Document document) throws IOException {
        String source = Files.readString(Path.of("src/main/java/MindFest.java"));
        int before = -1;
        CHECK.is("headings of the document", document.headings().size(), 5);
        for (List<String> row : document.headings()) {
            int heading = source.indexOf("// " + row.get(0) + "\n");
            CHECK.yes("in its place: " + row.get(0), heading > before);
            before = heading;
            for (String name : row.subList(1, row.size())) {
                int method = source.indexOf(" " + name + "(", source.indexOf("public MindFest()"));
                CHECK.yes("in its place: " + name, method > before);
                before = method;
            }
        }
    }
}
