/** Promises 1 (a new object), 2 queue, 3 retarget and 11 hold. */
public final class QueueTest {
    private static final Due DUE = new Due();

    public static void main(String[] args) {
        newObject();
        workers();
        queueNumbers();
        queueRefusals();
        queueWidth();
        retargetMoves();
        retargetRefusals();
        retargetCycle();
        retargetBusy();
        holdCounts();
        holdStopsTheChain();
        holdRefusals();
        DUE.end();
    }

    private static void newObject() {
        DUE.part("promise 1, a new object");
        BarrierDispatch x = new BarrierDispatch(4);
        for (int q = 0; q < 3; q++) {
            DUE.is("queued of a root", 0, x.queued(q));
            DUE.is("through of a root", 0, x.through(q));
            DUE.is("peak of a root", 0, x.peak(q));
        }
        DUE.is("queued(3)", BarrierDispatch.NOQUEUE, x.queued(3));
        DUE.is("state(0)", BarrierDispatch.NOBLOCK, x.state(0));
        for (int group = 0; group < 4; group++) {
            DUE.is("count of a group", 0, x.count(group));
        }
        DUE.is("now()", 0, x.now());
        DUE.is("ready()", 0, x.ready());
        DUE.is("begin()", BarrierDispatch.IDLE, x.begin());
    }

    private static void workers() {
        DUE.part("promise 1, workers");
        int[][] asked = {{1, 1}, {2, 2}, {7, 7}, {8, 8}, {0, 1}, {-1, 1}, {9, 8}, {100, 8},
            {Integer.MIN_VALUE, 1}, {Integer.MAX_VALUE, 8}};
        for (int[] pair : asked) {
            BarrierDispatch x = new BarrierDispatch(pair[0]);
            for (int i = 0; i < 12; i++) {
                x.submit(i % 3, false, -1);
            }
            int begun = 0;
            while (begun < 12 && x.begin() >= 0) {
                begun++;
            }
            DUE.is("blocks begun with " + pair[0] + " workers", pair[1], begun);
        }
    }

    private static void queueNumbers() {
        DUE.part("promise 2, numbers");
        BarrierDispatch x = new BarrierDispatch(1);
        for (int number = 3; number < 12; number++) {
            DUE.is("queue", number, x.queue(number - 1, 1 + number % 8));
            DUE.is("queued of the next", BarrierDispatch.NOQUEUE, x.queued(number + 1));
        }
        DUE.is("the thirteenth queue", BarrierDispatch.FULL, x.queue(0, 1));
        DUE.is("queued(12)", BarrierDispatch.NOQUEUE, x.queued(12));
        DUE.is("submit to the end of the long chain", 0, x.submit(11, false, -1));
        DUE.is("begin()", 0, x.begin());
        for (int q = 2; q < 12; q++) {
            DUE.is("through of the long chain", 1, x.through(q));
        }
        DUE.is("through(1)", 0, x.through(1));
    }

    private static void queueRefusals() {
        DUE.part("promise 2, refusals");
        BarrierDispatch x = new BarrierDispatch(1);
        DUE.is("queue(3, 1)", BarrierDispatch.NOQUEUE, x.queue(3, 1));
        DUE.is("queue(-1, 1)", BarrierDispatch.NOQUEUE, x.queue(-1, 1));
        DUE.is("queue(MAX, 0)", BarrierDispatch.NOQUEUE, x.queue(Integer.MAX_VALUE, 0));
        DUE.is("queue(MIN, 1)", BarrierDispatch.NOQUEUE, x.queue(Integer.MIN_VALUE, 1));
        DUE.is("queue(0, 0)", BarrierDispatch.BAD, x.queue(0, 0));
        DUE.is("queue(0, 9)", BarrierDispatch.BAD, x.queue(0, 9));
        DUE.is("queue(0, -1)", BarrierDispatch.BAD, x.queue(0, -1));
        DUE.is("queue(0, 1)", 3, x.queue(0, 1));
        DUE.is("queue(2, 8)", 4, x.queue(2, 8));
        for (int number = 5; number < 12; number++) {
            x.queue(0, 1);
        }
        DUE.is("full, queue(12, 0)", BarrierDispatch.NOQUEUE, x.queue(12, 0));
        DUE.is("full, queue(11, 9)", BarrierDispatch.BAD, x.queue(11, 9));
        DUE.is("full, queue(11, 8)", BarrierDispatch.FULL, x.queue(11, 8));
    }

    private static void queueWidth() {
        DUE.part("promise 2, width");
        for (int width = 1; width <= 8; width++) {
            BarrierDispatch x = new BarrierDispatch(8);
            x.queue(0, width);
            for (int i = 0; i < 9; i++) {
                x.submit(3, false, -1);
            }
            int begun = 0;
            while (begun < 9 && x.begin() >= 0) {
                begun++;
            }
            DUE.is("blocks begun in a queue of width " + width, width, begun);
        }
    }

    private static void retargetMoves() {
        DUE.part("promise 3, the chain");
        BarrierDispatch x = new BarrierDispatch(8);
        x.queue(0, 4);
        x.queue(3, 4);
        x.queue(1, 4);
        x.submit(4, false, -1);
        x.submit(5, false, -1);
        DUE.is("retarget(4, 2)", 0, x.retarget(4, 2));
        DUE.is("begin(): its quality is now 2", 0, x.begin());
        DUE.is("through(2)", 1, x.through(2));
        DUE.is("through(3)", 0, x.through(3));
        DUE.is("retarget(3, 5)", 0, x.retarget(3, 5));
        DUE.is("retarget(3, 5) again", 0, x.retarget(3, 5));
        x.finish(0);
        DUE.is("retarget(4, 3)", 0, x.retarget(4, 3));
        x.submit(4, false, -1);
        x.begin();
        DUE.is("begin()", 2, x.begin());
        for (int q = 3; q < 5; q++) {
            DUE.is("through of the new chain", 1, x.through(q));
        }
        DUE.is("through(5)", 2, x.through(5));
        DUE.is("through(1)", 2, x.through(1));
        DUE.is("through(0)", 0, x.through(0));
        DUE.is("peak(2) stays", 1, x.peak(2));
    }

    private static void retargetRefusals() {
        DUE.part("promise 3, refusals");
        BarrierDispatch x = new BarrierDispatch(8);
        x.queue(0, 4);
        DUE.is("no queue q", BarrierDispatch.NOQUEUE, x.retarget(4, 0));
        DUE.is("q -1", BarrierDispatch.NOQUEUE, x.retarget(-1, 0));
        DUE.is("q MAX", BarrierDispatch.NOQUEUE, x.retarget(Integer.MAX_VALUE, 0));
        DUE.is("no queue target", BarrierDispatch.NOQUEUE, x.retarget(3, 4));
        DUE.is("target -1", BarrierDispatch.NOQUEUE, x.retarget(3, -1));
        DUE.is("target MIN", BarrierDispatch.NOQUEUE, x.retarget(3, Integer.MIN_VALUE));
        for (int root = 0; root < 3; root++) {
            DUE.is("a root", BarrierDispatch.NOQUEUE, x.retarget(root, (root + 1) % 3));
            DUE.is("a root to itself", BarrierDispatch.NOQUEUE, x.retarget(root, root));
            DUE.is("a root to its own queue", BarrierDispatch.NOQUEUE, x.retarget(root, 3));
        }
        x.submit(3, false, -1);
        x.begin();
        DUE.is("busy, but no queue target", BarrierDispatch.NOQUEUE, x.retarget(3, 4));
        DUE.is("through(0)", 1, x.through(0));
    }

    private static void retargetCycle() {
        DUE.part("promise 3, cycle");
        BarrierDispatch x = new BarrierDispatch(8);
        x.queue(0, 4);
        x.queue(3, 4);
        x.queue(4, 4);
        DUE.is("itself", BarrierDispatch.CYCLE, x.retarget(3, 3));
        DUE.is("a child", BarrierDispatch.CYCLE, x.retarget(3, 4));
        DUE.is("a grandchild", BarrierDispatch.CYCLE, x.retarget(3, 5));
        DUE.is("the last to itself", BarrierDispatch.CYCLE, x.retarget(5, 5));
        x.submit(5, false, -1);
        x.begin();
        DUE.is("a cycle is named before a busy queue", BarrierDispatch.CYCLE, x.retarget(3, 5));
        x.finish(0);
        DUE.is("up the chain is none", 0, x.retarget(5, 3));
        DUE.is("now the other way", 0, x.retarget(4, 5));
        DUE.is("and now it is one", BarrierDispatch.CYCLE, x.retarget(5, 4));
    }

    private static void retargetBusy() {
        DUE.part("promise 3, busy");
        BarrierDispatch x = new BarrierDispatch(8);
        x.queue(0, 4);
        x.queue(3, 4);
        x.queue(0, 4);
        x.submit(4, false, -1);
        DUE.is("a QUEUED block does not count", 0, x.retarget(4, 3));
        x.begin();
        DUE.is("the home", BarrierDispatch.BUSY, x.retarget(4, 1));
        DUE.is("the target", BarrierDispatch.BUSY, x.retarget(3, 1));
        DUE.is("the same target", BarrierDispatch.BUSY, x.retarget(3, 0));
        DUE.is("another queue", 0, x.retarget(5, 3));
        x.call(0, 5, false);
        DUE.is("the home of a WAITING block", BarrierDispatch.BUSY, x.retarget(4, 3));
        DUE.is("the called block is only QUEUED", 0, x.retarget(5, 1));
        x.begin();
        DUE.is("it is RUNNING", BarrierDispatch.BUSY, x.retarget(5, 2));
        DUE.is("through(0)", 1, x.through(0));
        x.finish(1);
        x.finish(0);
        DUE.is("all done", 0, x.retarget(3, 1));
        DUE.is("all done", 0, x.retarget(4, 1));
    }

    private static void holdCounts() {
        DUE.part("promise 11, counts");
        BarrierDispatch x = new BarrierDispatch(8);
        x.queue(0, 4);
        x.queue(0, 4);
        for (int holds = 1; holds <= 100; holds++) {
            DUE.is("hold on", holds, x.hold(3, true));
        }
        DUE.is("one more", BarrierDispatch.FULL, x.hold(3, true));
        DUE.is("the other queue", 1, x.hold(4, true));
        for (int holds = 99; holds >= 0; holds--) {
            DUE.is("hold off", holds, x.hold(3, false));
        }
        DUE.is("one less", BarrierDispatch.IDLE, x.hold(3, false));
        DUE.is("on again", 1, x.hold(3, true));
        DUE.is("the other queue", 2, x.hold(4, true));
    }

    private static void holdStopsTheChain() {
        DUE.part("promise 11, the chain");
        BarrierDispatch x = new BarrierDispatch(8);
        x.queue(0, 4);
        x.queue(3, 4);
        x.submit(4, false, -1);
        x.submit(3, false, -1);
        x.hold(4, true);
        DUE.is("4 is held, ready()", 1, x.ready());
        x.hold(3, true);
        DUE.is("both are held, ready()", 0, x.ready());
        x.hold(4, false);
        DUE.is("3 is held, ready()", 0, x.ready());
        DUE.is("begin()", BarrierDispatch.IDLE, x.begin());
        x.hold(3, true);
        x.hold(3, false);
        DUE.is("3 is held once, ready()", 0, x.ready());
        x.hold(3, false);
        DUE.is("none is held, ready()", 2, x.ready());
        DUE.is("begin()", 0, x.begin());
        x.hold(4, true);
        DUE.yes("a hold does not stop a RUNNING block", x.finish(0));
        x.hold(3, true);
        x.cancel(1);
        DUE.is("a cancelled block stays behind a hold too", BarrierDispatch.IDLE, x.begin());
        DUE.is("state(1)", 10, x.state(1));
    }

    private static void holdRefusals() {
        DUE.part("promise 11, refusals");
        BarrierDispatch x = new BarrierDispatch(8);
        x.queue(0, 4);
        int[] wrong = {0, 1, 2, 4, 12, -1, Integer.MIN_VALUE, Integer.MAX_VALUE};
        for (int q : wrong) {
            DUE.is("hold(" + q + ", true)", BarrierDispatch.NOQUEUE, x.hold(q, true));
            DUE.is("hold(" + q + ", false)", BarrierDispatch.NOQUEUE, x.hold(q, false));
        }
        DUE.is("hold(3, false)", BarrierDispatch.IDLE, x.hold(3, false));
        x.submit(0, false, -1);
        DUE.is("a root is never held", 0, x.begin());
    }
}
