import java.io.IOException;

/** Small classes, each of which breaks one rule of LANGUAGE.md: LanguageTest must tell the rule's number. */
final class BrokenRules {
    private static final String KEPT = "public final class MindFest { private static final int[] ROW = {1, 2};"
            + " private final int[] row = new int[3]; private static class Inside { int one; }"
            + " public int face(int i) { return at(row, i) / 2; }"
            + " private static int at(int[] row, int i) { return i >= 0 && i < row.length ? row[i] : 0; }"
            + " %s }";

    private BrokenRules() {
    }

    static void look(Check check) throws IOException {
        check.is("a class that keeps the rules", LanguageTest.faultsOf(String.format(KEPT, "")).toString(), "[]");
        breaksAhead(check, 1, "package fest; ");
        breaksAhead(check, 1, "class Beside { } ");
        breaksAhead(check, 4, "import java.util.Random; ");
        breaks(check, 2, "private enum Kind { ONE }");
        breaks(check, 2, "private final class Outer { }");
        breaks(check, 2, "private Object m() { return new Inside() { }; }");
        breaks(check, 2, "private void m() { Runnable r = () -> { }; }");
        breaks(check, 2, "private void m() { Runnable r = this::m; }");
        breaks(check, 3, "private final int[][] rows = null;");
        breaks(check, 3, "private Object one;");
        breaks(check, 3, "private String text;");
        breaks(check, 4, "private int m() { return Math.addExact(1, 2); }");
        breaks(check, 4, "private long m() { return System.nanoTime(); }");
        breaks(check, 4, "private char m() { return '\u00e9'; }");
        breaks(check, 5, "private static int count = 0;");
        breaks(check, 5, "private static final int[] MADE = new int[3];");
        breaks(check, 5, "static { at(null, 1); }");
        breaks(check, 5, "private int m() { return at(ROW, 1); }");
        breaks(check, 5, "private void m() { ROW[0] = 1; }");
        breaks(check, 5, "private void m() { ROW[0] += 1; }");
        breaks(check, 6, "private void m() { throw new IllegalStateException(); }");
        breaks(check, 6, "private void m() { throw new NullPointerException(\"a\"); }");
        breaks(check, 6, "private MindFest(int i) { throw new IllegalStateException(\"a\"); }");
        breaks(check, 6, "private void m() { try { face(1); } finally { face(2); } }");
        breaks(check, 6, "private void m() { try { face(1); } catch (IllegalStateException e) { face(2); } }");
        breaks(check, 6, "private void m() { synchronized (this) { face(1); } }");
        breaks(check, 6, "private void m() { assert face(1) > 0; }");
        breaks(check, 6, "private boolean m(Integer a, Integer b) { return a == b; }");
        breaks(check, 6, "public String toString() { return null; }");
        breaks(check, 7, "private int m(int i) { return row[i]; }");
        breaks(check, 7, "private int m(int i) { return 3 / i; }");
        breaks(check, 7, "private int m(int i) { return 3 % i; }");
        breaks(check, 7, "private int m(int i) { int j = 3; j /= i; return j; }");
        breaks(check, 7, "private int m() { return 3 / 0; }");
        breaks(check, 7, "private Inside m(Object o) { return (Inside) o; }");
        breaks(check, 8, "private static int m(int i) { return m(i); }");
        breaks(check, 8, "private int m(int depth) { return depth > 9 ? 0 : m(depth + 1); }");
        breaks(check, 8, "private int m(int i) { return n(i); } private int n(int i) { return m(i); }");
        breaks(check, 9, "private void m() { while (face(1) > 0) { face(2); } }");
        breaks(check, 9, "private void m() { do { face(2); } while (face(1) > 0); }");
        breaks(check, 9, "private void m() { for (int i = 0; face(i) > 0; i++) { face(2); } }");
        breaks(check, 9, "private void m() { for (int i = 0; i < 3; i--) { face(2); } }");
        breaks(check, 9, "private void m() { for (int i = 0; i < 3 || face(i) > 0; i++) { face(2); } }");
        breaks(check, 9, "private void m() { for (;;) { face(2); } }");
        breaks(check, 10, "private void m() { face((\"a\" + 1).length()); }");
        breaks(check, 11, "private int m(int a, int b, int c, int d, int e, int f, int g, int h) { return a; }");
        breaks(check, 11, "private int m() {" + "\n".repeat(61) + "return 1; }");
        breaks(check, 11, "private static final class Many { int a" + many() + "; }");
        breaks(check, 11, deep());
        breaks(check, 12, "private int m() { return at(new int[3], 1); }");
        breaks(check, 12, "private void m() { for (int i = 0; i < 3; i++) { Inside one = new Inside(); } }");
    }

    private static String many() {
        StringBuilder names = new StringBuilder();
        for (int i = 0; i < 21; i++) {
            names.append(", a").append(i);
        }
        return names.toString();
    }

    private static String deep() {
        StringBuilder methods = new StringBuilder("public int m0() { return m1(); }");
        for (int i = 1; i < 9; i++) {
            methods.append(" private int m").append(i).append("() { return ").append(i < 8 ? "m" + (i + 1) + "()" : "1")
                    .append("; }");
        }
        return methods.toString();
    }

    private static void breaksAhead(Check check, int rule, String ahead) throws IOException {
        String faults = LanguageTest.faultsOf(ahead + String.format(KEPT, "")).toString();
        check.yes("rule " + rule + " is broken by " + ahead, faults.contains("[" + rule + ": "));
    }

    private static void breaks(Check check, int rule, String member) throws IOException {
        boolean isTold = false;
        for (String fault : LanguageTest.faultsOf(String.format(KEPT, member))) {
            isTold |= fault.startsWith(rule + ": ");
        }
        check.yes("rule " + rule + " is broken by " + member, isTold);
    }
}
