/** What the tests share: counts answers that are not due, and ends with exit code 1 if there was one. */
final class Check {
    interface Call {
        Object run();
    }

    private final String name;
    private int looked;
    private int wrong;

    Check(String name) {
        this.name = name;
    }

    void is(String label, Object got, Object due) {
        looked++;
        if (!due.equals(got)) {
            wrong++;
            System.out.println(name + ": " + label + " answered " + got + ", due is " + due);
        }
    }

    void yes(String label, boolean got) {
        is(label, got, true);
    }

    void no(String label, boolean got) {
        is(label, got, false);
    }

    /** The class of what is thrown must be the very one: a subclass would be the machine's own. */
    void fails(String label, Class<? extends RuntimeException> due, Call call) {
        looked++;
        try {
            Object got = call.run();
            wrong++;
            System.out.println(name + ": " + label + " answered " + got + ", due is " + due.getSimpleName());
        } catch (RuntimeException thrown) {
            if (thrown.getClass() != due) {
                wrong++;
                System.out.println(name + ": " + label + " threw " + thrown + ", due is " + due.getSimpleName());
            }
        }
    }

    void close() {
        System.out.println(name + ": " + looked + " answers looked at, " + wrong + " wrong");
        if (wrong > 0) {
            System.exit(1);
        }
    }
}
