import java.util.List;

/**
 * Looks at calls that are to leave an object as it was, refused ones above all: that the answer is the
 * due one, and that of two objects in the same scene the one that got the call answers like the other
 * from then on.
 */
final class NoChange {
    private final Due due;
    private final int workers;
    private final Scene scene;

    NoChange(Due due, int workers, Scene scene) {
        this.due = due;
        this.workers = workers;
        this.scene = scene;
    }

    void is(String name, long want, Call call) {
        due.is(name, want, call.on(inScene()));
        for (Probe probe : Probe.values()) {
            BarrierDispatch called = inScene();
            call.on(called);
            List<Long> unchanged = probe.answers(inScene());
            due.same(name + " changed something: " + probe, unchanged, probe.answers(called));
        }
    }

    void no(String name, YesOrNo call) {
        is(name, 0, x -> call.on(x) ? 1 : 0);
    }

    private BarrierDispatch inScene() {
        BarrierDispatch x = new BarrierDispatch(workers);
        scene.set(x);
        return x;
    }
}
