/** Promise 6, call. */
public final class CallTest {
    private static final Due DUE = new Due();

    public static void main(String[] args) {
        callWaits();
        callNeedsNoWorker();
        noBlock();
        noQueue();
        deadlockByWidth();
        deadlockByBarrierCaller();
        deadlockByBarrierCalled();
        deadlockOverTheCallers();
        noDeadlockAtRoots();
        full();
        DUE.end();
    }

    private static void callWaits() {
        DUE.part("promise 6, the caller waits");
        BarrierDispatch x = new BarrierDispatch(4);
        x.queue(0, 2);
        x.submit(0, false, 1);
        x.submit(0, false, -1);
        x.begin();
        DUE.is("call(0, 3, true)", 2, x.call(0, 3, true));
        DUE.is("state(0)", 4, x.state(0));
        DUE.is("state(2)", 2, x.state(2));
        DUE.is("queued(3)", 1, x.queued(3));
        DUE.is("count(1), the called block is no member", 1, x.count(1));
        DUE.is("a WAITING block is live", 1, x.through(0));
        DUE.is("the younger one comes after", 1, x.begin());
        DUE.is("begin()", 2, x.begin());
        x.submit(3, false, -1);
        DUE.is("it is a barrier", BarrierDispatch.IDLE, x.begin());
        DUE.yes("finish(2)", x.finish(2));
        DUE.is("state(0)", 3, x.state(0));
        DUE.is("it can call again", 4, x.call(0, 3, false));
        DUE.yes("cancel(4)", x.cancel(4));
        DUE.is("begin()", 3, x.begin());
        DUE.is("state(0)", 4, x.state(0));
        DUE.is("begin() skips", BarrierDispatch.IDLE, x.begin());
        DUE.is("state(0) after the skip", 3, x.state(0));
        DUE.is("state(4)", 14, x.state(4));
    }

    private static void callNeedsNoWorker() {
        DUE.part("promise 6, workers");
        BarrierDispatch x = new BarrierDispatch(1);
        x.submit(0, false, -1);
        x.begin();
        int last = 0;
        for (int depth = 1; depth < 60; depth++) {
            DUE.is("call", depth, x.call(last, depth % 3, false));
            DUE.is("ready()", 1, x.ready());
            DUE.is("begin()", depth, x.begin());
            last = depth;
        }
        x.submit(2, false, -1);
        DUE.is("the one worker is in use", BarrierDispatch.IDLE, x.begin());
        for (int depth = 59; depth >= 1; depth--) {
            DUE.no("the caller has to wait", x.finish(depth - 1));
            DUE.yes("finish", x.finish(depth));
            DUE.is("the one worker is in use", BarrierDispatch.IDLE, x.begin());
        }
        DUE.yes("finish(0)", x.finish(0));
        DUE.is("begin()", 60, x.begin());
    }

    private static void noBlock() {
        DUE.part("promise 6, NOBLOCK");
        BarrierDispatch x = new BarrierDispatch(4);
        x.enter(0);
        x.submit(0, false, -1);
        x.after(0, 5);
        x.whenDone(0, 0);
        int[] wrong = {-1, 3, 160, Integer.MIN_VALUE, Integer.MAX_VALUE, 0, 1, 2};
        for (int caller : wrong) {
            DUE.is("call(" + caller + ", 0)", BarrierDispatch.NOBLOCK, x.call(caller, 0, false));
            DUE.is("call(" + caller + ", 7)", BarrierDispatch.NOBLOCK, x.call(caller, 7, false));
        }
        x.begin();
        x.call(0, 0, false);
        DUE.is("WAITING", BarrierDispatch.NOBLOCK, x.call(0, 0, false));
        x.cancel(3);
        x.begin();
        DUE.is("SKIPPED", BarrierDispatch.NOBLOCK, x.call(3, 0, false));
        x.finish(0);
        DUE.is("DONE", BarrierDispatch.NOBLOCK, x.call(0, 0, false));
        DUE.is("the next ticket", 4, x.submit(0, false, -1));
    }

    private static void noQueue() {
        DUE.part("promise 6, NOQUEUE");
        BarrierDispatch x = new BarrierDispatch(4);
        x.submit(0, false, -1);
        x.begin();
        int[] wrong = {-1, 3, 12, Integer.MIN_VALUE, Integer.MAX_VALUE};
        for (int q : wrong) {
            DUE.is("call(0, " + q + ")", BarrierDispatch.NOQUEUE, x.call(0, q, true));
        }
        DUE.is("the caller goes on", 3, x.state(0));
        DUE.is("state(1)", BarrierDispatch.NOBLOCK, x.state(1));
    }

    private static void deadlockByWidth() {
        DUE.part("promise 6, DEADLOCK by width 1");
        BarrierDispatch x = new BarrierDispatch(8);
        x.queue(0, 1);
        x.queue(3, 4);
        x.queue(3, 4);
        x.queue(0, 1);
        x.submit(4, false, -1);
        x.begin();
        DUE.is("a queue over both", BarrierDispatch.DEADLOCK, x.call(0, 5, false));
        DUE.is("the home", BarrierDispatch.DEADLOCK, x.call(0, 4, false));
        DUE.is("the narrow queue itself", BarrierDispatch.DEADLOCK, x.call(0, 3, false));
        DUE.is("the caller goes on", 3, x.state(0));
        DUE.is("queued(5)", 0, x.queued(5));
        DUE.is("another narrow queue", 1, x.call(0, 6, false));

        BarrierDispatch y = new BarrierDispatch(8);
        y.queue(0, 2);
        y.queue(3, 1);
        y.submit(3, false, -1);
        y.begin();
        DUE.is("a narrow queue that it does not pass through", 1, y.call(0, 4, false));
        DUE.is("begin()", 1, y.begin());
        DUE.is("width 2 is in use, and still no deadlock is told", 2, y.call(1, 3, false));
        DUE.is("begin()", BarrierDispatch.IDLE, y.begin());
    }

    private static void deadlockByBarrierCaller() {
        DUE.part("promise 6, DEADLOCK by a barrier that calls");
        BarrierDispatch x = new BarrierDispatch(8);
        x.queue(0, 4);
        x.queue(3, 4);
        x.queue(3, 4);
        x.submit(4, true, -1);
        x.begin();
        DUE.is("its home", BarrierDispatch.DEADLOCK, x.call(0, 4, false));
        DUE.is("its home's target, where it is no barrier", 1, x.call(0, 3, false));
        DUE.is("begin()", 1, x.begin());
        x.finish(1);
        DUE.is("a queue beside", 2, x.call(0, 5, true));
        DUE.is("begin()", 2, x.begin());
        x.finish(2);
        x.finish(0);
        x.submit(3, true, -1);
        DUE.is("begin()", 3, x.begin());
        DUE.is("a queue below its home", BarrierDispatch.DEADLOCK, x.call(3, 5, false));
    }

    private static void deadlockByBarrierCalled() {
        DUE.part("promise 6, DEADLOCK by a barrier that is called");
        BarrierDispatch x = new BarrierDispatch(8);
        x.queue(0, 4);
        x.queue(3, 4);
        x.queue(3, 4);
        x.submit(4, false, -1);
        x.begin();
        DUE.is("its home", BarrierDispatch.DEADLOCK, x.call(0, 4, true));
        DUE.is("its home's target", BarrierDispatch.DEADLOCK, x.call(0, 3, true));
        DUE.is("a queue beside, x has to be q", 1, x.call(0, 5, true));
        x.begin();
        x.finish(1);
        DUE.is("no barrier", 2, x.call(0, 4, false));
        DUE.is("begin()", 2, x.begin());
    }

    private static void deadlockOverTheCallers() {
        DUE.part("promise 6, DEADLOCK over the callers' callers");
        BarrierDispatch x = new BarrierDispatch(8);
        x.queue(0, 1);
        x.queue(1, 4);
        x.queue(2, 4);
        x.submit(3, false, -1);
        x.begin();
        x.call(0, 4, true);
        x.begin();
        x.call(1, 5, false);
        x.begin();
        x.call(2, 0, false);
        x.begin();
        DUE.is("the narrow queue of the first", BarrierDispatch.DEADLOCK, x.call(3, 3, false));
        DUE.is("the barrier's home", BarrierDispatch.DEADLOCK, x.call(3, 4, false));
        DUE.is("a barrier to the third's home", BarrierDispatch.DEADLOCK, x.call(3, 5, true));
        DUE.is("no barrier to the third's home", 4, x.call(3, 5, false));
        x.submit(4, false, -1);
        DUE.is("begin()", 4, x.begin());
        x.submit(2, false, -1);
        DUE.is("begin()", 6, x.begin());
        DUE.is("another block has no such callers", 7, x.call(6, 3, false));
    }

    private static void noDeadlockAtRoots() {
        DUE.part("promise 6, roots");
        BarrierDispatch x = new BarrierDispatch(8);
        x.submit(1, true, -1);
        x.begin();
        DUE.is("a barrier to the same root", 1, x.call(0, 1, true));
        DUE.is("begin(), for it is none", 1, x.begin());
        DUE.is("again", 2, x.call(1, 1, true));
        DUE.is("begin()", 2, x.begin());
        DUE.is("through(1)", 3, x.through(1));
    }

    private static void full() {
        DUE.part("promise 6, FULL");
        BarrierDispatch x = new BarrierDispatch(8);
        x.queue(0, 1);
        x.submit(3, false, -1);
        x.begin();
        for (int ticket = 1; ticket < 159; ticket++) {
            x.submit(1, false, -1);
        }
        DUE.is("the last", 159, x.call(0, 1, false));
        DUE.yes("cancel(159)", x.cancel(159));
        for (int ticket = 1; ticket < 159; ticket++) {
            x.cancel(ticket);
        }
        DUE.is("begin() skips all", BarrierDispatch.IDLE, x.begin());
        DUE.is("state(0)", 3, x.state(0));
        DUE.is("one more", BarrierDispatch.FULL, x.call(0, 1, false));
        DUE.is("the caller goes on", 3, x.state(0));
        DUE.is("DEADLOCK comes before FULL", BarrierDispatch.DEADLOCK, x.call(0, 3, false));
        DUE.is("NOQUEUE comes before FULL", BarrierDispatch.NOQUEUE, x.call(0, 4, false));
        DUE.is("NOBLOCK comes before FULL", BarrierDispatch.NOBLOCK, x.call(1, 1, false));
    }
}
