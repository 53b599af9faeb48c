import java.io.IOException;
import java.nio.file.Files;
import java.nio.file.Path;
import java.util.ArrayList;
import java.util.List;
import java.util.regex.Matcher;
import java.util.regex.Pattern;

/** What tests take from the document itself, so that they look at its words and not at a copy of them. */
final class Document {
    private static final Pattern MEMBER = Pattern.compile("    public ([^;]*);");
    private static final Pattern CALL = Pattern.compile(
            "(\\w+)\\(([^()]*)\\) (?:= ('.'|-?[0-9]+(?:\\.[0-9]+)?|true|false)|throws (\\w+))");
    private static final Pattern HEADING = Pattern.compile(
            "(?m)^Ahead of the calls (.*) the interface says: (---- .*)\\.$");

    /** A call of an example: what it answers, or what it throws. */
    static final class Call {
        final String name;
        final List<String> arguments = new ArrayList<>();
        final String answer;
        final String thrown;

        Call(Matcher found) {
            name = found.group(1);
            answer = found.group(3);
            thrown = found.group(4);
            for (String argument : found.group(2).split(", ")) {
                if (!argument.isEmpty()) {
                    arguments.add(argument);
                }
            }
        }

        @Override
        public String toString() {
            return name + "(" + String.join(", ", arguments) + ")";
        }
    }

    private final String text;

    Document() throws IOException {
        text = Files.readString(Path.of("../shared/DOC.md"));
    }

    /** The members of the public face, as "int player(int,int) throws A, B", the constructor as "MindFest()". */
    List<String> face() {
        List<String> face = new ArrayList<>();
        int begin = text.indexOf("public final class MindFest {");
        Matcher member = MEMBER.matcher(text.substring(begin, text.indexOf("\n}\n", begin)));
        while (member.find()) {
            face.add(withoutNames(member.group(1)));
        }
        return face;
    }

    private static String withoutNames(String member) {
        int open = member.indexOf('(');
        int close = member.indexOf(')');
        String types = member.substring(open, close).replaceAll("(\\w+) \\w+", "$1").replace(", ", ",");
        return member.substring(0, open) + types + member.substring(close);
    }

    /** The examples, each one a row of calls. */
    List<List<Call>> examples() {
        int begin = text.indexOf("\nExamples: ");
        String part = text.substring(begin, text.indexOf("\nAhead of the calls", begin));
        List<List<Call>> examples = new ArrayList<>();
        for (String example : part.split("\n- ")) {
            List<Call> calls = new ArrayList<>();
            Matcher call = CALL.matcher(example.replaceAll("```(text)?", " ").replaceAll("\\s+", " "));
            while (call.find()) {
                calls.add(new Call(call));
            }
            if (!calls.isEmpty()) {
                examples.add(calls);
            }
        }
        return examples;
    }

    /** Rows of the words that stand ahead of calls, and of those calls. */
    List<List<String>> headings() {
        List<List<String>> headings = new ArrayList<>();
        Matcher heading = HEADING.matcher(text);
        while (heading.find()) {
            List<String> row = new ArrayList<>();
            row.add(heading.group(2));
            for (String call : heading.group(1).split(", ")) {
                row.add(call.replace("`", ""));
            }
            headings.add(row);
        }
        return headings;
    }
}
