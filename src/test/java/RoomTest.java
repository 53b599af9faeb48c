import com.sun.management.ThreadMXBean;
import java.lang.management.ManagementFactory;

/** Rule 12 of LANGUAGE.md: what a run makes is small. Rows are made with the object, and calls make none of their own. */
public final class RoomTest {
    private static final Check CHECK = new Check("RoomTest");
    private static final ThreadMXBean THREADS = (ThreadMXBean) ManagementFactory.getThreadMXBean();
    private static final long SOME = 4096;

    public static void main(String[] args) {
        Fests.hundredGames();
        look(Fests.hundredGames());
        long before = made();
        MindFest fest = Fests.hundredGames();
        CHECK.yes("an object with 12 players, 4 events and 100 games", made() - before < 300_000);
        before = made();
        look(fest);
        CHECK.yes("calls that only look", made() - before < SOME);
        before = made();
        for (int call = 0; call < 100; call++) {
            fest.correct(call % 5, "1+0-=+".charAt(call % 6));
            fest.day();
        }
        CHECK.yes("calls that reckon anew", made() - before < SOME);
        MindFest open = Fests.ofPlayers(10);
        open.event('t', 7, 1023);
        Fests.round(open, 0, '=');
        before = made();
        for (int call = 0; call < 100; call++) {
            open.weight(0);
        }
        CHECK.yes("calls that search for a pairing", made() - before < SOME);
        before = made();
        new MindFest();
        CHECK.yes("a new object", made() - before < 150_000);
        CHECK.close();
    }

    private static long made() {
        return THREADS.getThreadAllocatedBytes(Thread.currentThread().getId());
    }

    /** The dearest calls, which fill tables, search for pairings, reckon ratings and add up. */
    private static void look(MindFest fest) {
        for (int call = 0; call < 40; call++) {
            fest.mark(call % 12);
            fest.overall(call % 12);
            fest.share(0, call % 10);
            fest.tieBreak(1, call % 10, 1);
            fest.ranked(2, 1 + call % 10);
            fest.norms(call % 12);
            fest.ratingOn(call % 12, 0);
            fest.best(call);
            fest.overShare();
            fest.checksum();
            fest.isSound();
        }
    }
}
