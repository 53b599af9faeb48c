/**
 * Calls that have to be refused, and to change nothing: each is put to olympiads of its own that were made alike,
 * which must then tell, and answer what comes after, as one does that was left alone.
 */
final class Refusals {
    interface Scene {
        MindFest make();
    }

    interface Wrong {
        Object run(MindFest fest);
    }

    private final Check check;
    private final Scene scene;
    private final String seen;
    private final String comes;

    Refusals(Check check, Scene scene) {
        this.check = check;
        this.scene = scene;
        this.seen = Witness.look(scene.make());
        this.comes = Witness.goOn(scene.make());
    }

    void refuse(String label, Class<? extends RuntimeException> due, Wrong wrong) {
        MindFest looked = scene.make();
        check.fails(label, due, () -> wrong.run(looked));
        check.is("what is seen after " + label, Witness.look(looked), seen);
        MindFest used = scene.make();
        check.fails(label, due, () -> wrong.run(used));
        check.is("what comes after " + label, Witness.goOn(used), comes);
    }
}
