import java.io.IOException;
import java.lang.reflect.InvocationTargetException;
import java.lang.reflect.Method;
import java.util.List;

/** The four examples of the document, call by call: as they stand there, and once more by hand. */
public final class ExamplesTest {
    private static final Check CHECK = new Check("ExamplesTest");

    public static void main(String[] args) throws IOException, ReflectiveOperationException {
        fromTheDocument();
        roundByRating();
        takingAway();
        agreements();
        threePlayers();
        CHECK.close();
    }

    private static void fromTheDocument() throws IOException, ReflectiveOperationException {
        String sizes = "";
        for (List<Document.Call> example : new Document().examples()) {
            MindFest fest = new MindFest();
            for (Document.Call call : example) {
                CHECK.is(call + ", as the document has it", answer(fest, call),
                        call.thrown == null ? call.answer : call.thrown);
            }
            sizes += example.size() + " ";
        }
        CHECK.is("calls of the examples", sizes, "11 9 5 8 ");
    }

    /** What a call answers, written as the document writes it, or the name of what it throws. */
    private static String answer(MindFest fest, Document.Call call) throws ReflectiveOperationException {
        for (Method method : MindFest.class.getMethods()) {
            if (method.getName().equals(call.name)) {
                Object[] arguments = new Object[call.arguments.size()];
                for (int i = 0; i < arguments.length; i++) {
                    arguments[i] = valueOf(call.arguments.get(i));
                }
                try {
                    Object got = method.invoke(fest, arguments);
                    return got instanceof Character ? "'" + got + "'" : String.valueOf(got);
                } catch (InvocationTargetException thrown) {
                    return thrown.getCause().getClass().getSimpleName();
                }
            }
        }
        return "no such method";
    }

    private static Object valueOf(String argument) {
        if (argument.startsWith("'")) {
            return argument.charAt(1);
        }
        return argument.equals("true") || argument.equals("false") ? (Object) Boolean.valueOf(argument)
                : (Object) Integer.valueOf(argument);
    }

    private static void roundByRating() {
        MindFest fest = new MindFest();
        CHECK.is("player(1500, 0)", fest.player(1500, 0), 0);
        CHECK.is("player(1500, 1)", fest.player(1500, 1), 1);
        CHECK.is("event('t', 1, 3)", fest.event('t', 1, 3), 0);
        CHECK.is("pair(0)", fest.pair(0), 0);
        CHECK.is("playerOf(0, true)", fest.playerOf(0, true), 0);
        CHECK.is("best(0)", fest.best(0), '=');
        CHECK.is("end(0, '1')", fest.end(0, '1'), 0);
        CHECK.is("points(0, 0)", fest.points(0, 0), 2);
        CHECK.is("day()", fest.day(), 1);
        CHECK.is("rating(0)", fest.rating(0), 1520);
        CHECK.is("rating(1)", fest.rating(1), 1480);
    }

    private static void takingAway() {
        MindFest fest = new MindFest();
        CHECK.is("player(1500, 0)", fest.player(1500, 0), 0);
        CHECK.is("player(1500, 1)", fest.player(1500, 1), 1);
        CHECK.is("event('n', 1, 3)", fest.event('n', 1, 3), 0);
        CHECK.is("pair(0)", fest.pair(0), 0);
        CHECK.is("move(0, 3, 5)", fest.move(0, 3, 5), '*');
        CHECK.is("move(0, 14, 5)", fest.move(0, 14, 5), '*');
        CHECK.is("move(0, 25, 5)", fest.move(0, 25, 5), '1');
        CHECK.is("result(0)", fest.result(0), '1');
        CHECK.is("rank(0, 0)", fest.rank(0, 0), 1);
    }

    private static void agreements() {
        MindFest fest = new MindFest();
        CHECK.is("player(1500, 0)", fest.player(1500, 0), 0);
        CHECK.is("agree(0, 4, 3)", fest.agree(0, 4, 3), 4);
        CHECK.is("odds(0)", fest.odds(0), 0.3125);
        CHECK.is("isBanned(0)", fest.isBanned(0), false);
        CHECK.is("rated(0)", fest.rated(0), 0);
    }

    private static void threePlayers() {
        MindFest fest = new MindFest();
        CHECK.is("player(1000, 0)", fest.player(1000, 0), 0);
        CHECK.is("player(1000, 0)", fest.player(1000, 0), 1);
        CHECK.is("player(1000, 0)", fest.player(1000, 0), 2);
        CHECK.is("event('t', 3, 7)", fest.event('t', 3, 7), 0);
        CHECK.is("pair(0)", fest.pair(0), 0);
        CHECK.is("bye(0, 0)", fest.bye(0, 0), 2);
        CHECK.is("points(0, 2)", fest.points(0, 2), 2);
        CHECK.fails("weight(0)", UnsupportedOperationException.class, () -> fest.weight(0));
    }
}
