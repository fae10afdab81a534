/** Promise 11, hold: its edges, sentence by sentence. */
public final class Promise11Test {
    private static final Due DUE = new Due();
    private static final NoChange NEW = new NoChange(DUE, 2, x -> { });
    private static final NoChange MIXED = new NoChange(DUE, Mixed.WORKERS, Mixed::set);

    public static void main(String[] args) {
        addsOrTakesOne();
        everyQueueHasItsOwn();
        noQueue();
        rootIsRefused();
        fullAt100();
        idleAtZero();
        noQueueIsNoHoldCount();
        DUE.end();
    }

    private static void holdOn(BarrierDispatch x, int times) {
        x.queue(0, 1);
        for (int i = 0; i < times; i++) {
            x.hold(3, true);
        }
    }

    private static void addsOrTakesOne() {
        DUE.part("promise 11: adds 1 or takes 1: the new hold count");
        BarrierDispatch x = new BarrierDispatch(1);
        x.queue(0, 1);
        DUE.is("from 0, on", 1, x.hold(3, true));
        DUE.is("from 1, off", 0, x.hold(3, false));
        DUE.is("from 0, on", 1, x.hold(3, true));
        DUE.is("from 1, on", 2, x.hold(3, true));
        DUE.is("from 2, off", 1, x.hold(3, false));
        DUE.is("from 1, off", 0, x.hold(3, false));
    }

    private static void everyQueueHasItsOwn() {
        DUE.part("promise 11: the hold count of queue q");
        BarrierDispatch x = new BarrierDispatch(1);
        Edges.makeQueues(x, 3, Edges.MOST_QUEUES);
        for (int q = 3; q <= 11; q++) {
            for (int holds = 1; holds <= q; holds++) {
                DUE.is("hold(" + q + ", true)", holds, x.hold(q, true));
            }
        }
        for (int q = 3; q <= 11; q++) {
            DUE.is("hold(" + q + ", false)", q - 1, x.hold(q, false));
        }
    }

    private static void noQueue() {
        DUE.part("promise 11: NOQUEUE when there is no queue q");
        for (int q : Edges.NEVER_QUEUES) {
            refusedBothWays(NEW, q);
            refusedBothWays(MIXED, q);
        }
        refusedBothWays(NEW, 3);
        refusedBothWays(MIXED, Mixed.QUEUES);
    }

    private static void rootIsRefused() {
        DUE.part("promise 11: NOQUEUE when q is a root");
        for (int root = 0; root <= 2; root++) {
            refusedBothWays(NEW, root);
            refusedBothWays(MIXED, root);
        }
    }

    private static void refusedBothWays(NoChange scene, int q) {
        scene.is("hold(" + q + ", true)", BarrierDispatch.NOQUEUE, x -> x.hold(q, true));
        scene.is("hold(" + q + ", false)", BarrierDispatch.NOQUEUE, x -> x.hold(q, false));
    }

    private static void fullAt100() {
        DUE.part("promise 11: FULL when the hold count is 100 (on)");
        BarrierDispatch x = new BarrierDispatch(1);
        holdOn(x, 98);
        DUE.is("at 98, on", 99, x.hold(3, true));
        DUE.is("at 99, on", 100, x.hold(3, true));
        DUE.is("at 100, on", BarrierDispatch.FULL, x.hold(3, true));
        DUE.is("again, on", BarrierDispatch.FULL, x.hold(3, true));
        DUE.is("at 100, off", 99, x.hold(3, false));
        DUE.is("at 99 again, on", 100, x.hold(3, true));
        DUE.is("at 100 again, on", BarrierDispatch.FULL, x.hold(3, true));
        NoChange most = new NoChange(DUE, 1, y -> holdOn(y, 100));
        most.is("at 100, hold(3, true)", BarrierDispatch.FULL, y -> y.hold(3, true));
    }

    private static void idleAtZero() {
        DUE.part("promise 11: IDLE when it is 0 (not on)");
        BarrierDispatch x = new BarrierDispatch(1);
        holdOn(x, 2);
        DUE.is("at 2, off", 1, x.hold(3, false));
        DUE.is("at 1, off", 0, x.hold(3, false));
        DUE.is("at 0, off", BarrierDispatch.IDLE, x.hold(3, false));
        DUE.is("again, off", BarrierDispatch.IDLE, x.hold(3, false));
        DUE.is("at 0, on", 1, x.hold(3, true));
        MIXED.is("a queue that was never held, hold(7, false)", BarrierDispatch.IDLE, y -> y.hold(7, false));
        NoChange never = new NoChange(DUE, 1, y -> holdOn(y, 0));
        never.is("hold(3, false)", BarrierDispatch.IDLE, y -> y.hold(3, false));
    }

    private static void noQueueIsNoHoldCount() {
        DUE.part("promise 11: NOQUEUE is named before IDLE, and a root has no hold count");
        BarrierDispatch x = new BarrierDispatch(1);
        x.submit(2, false, -1);
        for (int i = 0; i < 101; i++) {
            DUE.is("hold(2, true)", BarrierDispatch.NOQUEUE, x.hold(2, true));
        }
        DUE.is("hold(2, false)", BarrierDispatch.NOQUEUE, x.hold(2, false));
        DUE.is("begin()", 0, x.begin());
    }
}
