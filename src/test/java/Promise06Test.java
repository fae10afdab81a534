/** Promise 6, call: its edges, sentence by sentence. */
public final class Promise06Test {
    private static final Due DUE = new Due();
    private static final NoChange NEW = new NoChange(DUE, 2, x -> { });
    private static final NoChange MIXED = new NoChange(DUE, Mixed.WORKERS, Mixed::set);
    private static final NoChange FULL = new NoChange(DUE, Mixed.WORKERS, Mixed::setFull);
    /** How many callers stand between the new block's caller and the first of all; each of them waits at a root. */
    private static final int[] DEPTHS = {0, 1, 2, 3, 40};

    public static void main(String[] args) {
        queuedAtOnceAndTheCallerWaits();
        noBlockWhenThereIsNone();
        noBlockWhenNotRunning();
        noQueue();
        deadlockByWidthOne();
        deadlockByABarrierAmongTheCallers();
        deadlockByTheNewBarrier();
        deadlockOnlyByTheCallers();
        deadlockOnlyByCallsThatStand();
        noDeadlockAtARoot();
        noDeadlockWhenTheCallersUseUpAWidth();
        noDeadlockByWhatIsInTheWayNow();
        deadlockChangesNothing();
        fullWith160Blocks();
        noBlockBeforeTheOthers();
        noQueueBeforeFull();
        deadlockBeforeFull();
        DUE.end();
    }

    private static void queuedAtOnceAndTheCallerWaits() {
        DUE.part("promise 6: QUEUED at once, the caller becomes WAITING");
        BarrierDispatch x = new BarrierDispatch(1);
        Edges.makeQueues(x, 3, Edges.MOST_QUEUES);
        x.submit(0, false, 1);
        x.begin();
        int caller = 0;
        for (int q = 0; q <= 11; q++) {
            int called = x.call(caller, q, q % 2 == 0);
            DUE.is("call(" + caller + ", " + q + ")", caller + 1, called);
            DUE.is("state of the caller", 4, x.state(caller));
            DUE.is("state of the called", 2, x.state(called));
            DUE.is("queued(" + q + ")", 1, x.queued(q));
            DUE.is("begin()", called, x.begin());
            DUE.is("state of the called", 3, x.state(called));
            caller = called;
        }
        DUE.is("count(1), a called block is no member", 1, x.count(1));
    }

    private static void noBlockWhenThereIsNone() {
        DUE.part("promise 6: NOBLOCK when there is no block caller");
        for (int caller : Edges.NEVER_TICKETS) {
            NEW.is("call(" + caller + ", 0, false)", BarrierDispatch.NOBLOCK, x -> x.call(caller, 0, false));
            MIXED.is("call(" + caller + ", 1, true)", BarrierDispatch.NOBLOCK, x -> x.call(caller, 1, true));
        }
        NEW.is("call(0, 0, false)", BarrierDispatch.NOBLOCK, x -> x.call(0, 0, false));
        MIXED.is("one beyond the last, call(13, 0, false)", BarrierDispatch.NOBLOCK,
                x -> x.call(Mixed.BLOCKS, 0, false));
    }

    private static void noBlockWhenNotRunning() {
        DUE.part("promise 6: NOBLOCK when caller is not RUNNING");
        for (int ticket = 0; ticket < Mixed.BLOCKS; ticket++) {
            int caller = ticket;
            if (caller != Mixed.RUNNING) {
                MIXED.is("call(" + caller + ", 0, false)", BarrierDispatch.NOBLOCK, x -> x.call(caller, 0, false));
            }
        }
        BarrierDispatch x = new BarrierDispatch(Mixed.WORKERS);
        Mixed.set(x);
        DUE.is("the RUNNING one", Mixed.BLOCKS, x.call(Mixed.RUNNING, 0, false));
        DUE.is("now it is WAITING", BarrierDispatch.NOBLOCK, x.call(Mixed.RUNNING, 0, false));
    }

    private static void noQueue() {
        DUE.part("promise 6: NOQUEUE when there is no queue q");
        for (int q : Edges.NEVER_QUEUES) {
            MIXED.is("call(2, " + q + ", false)", BarrierDispatch.NOQUEUE, x -> x.call(Mixed.RUNNING, q, false));
            MIXED.is("call(2, " + q + ", true)", BarrierDispatch.NOQUEUE, x -> x.call(Mixed.RUNNING, q, true));
        }
        MIXED.is("call(2, 8, false)", BarrierDispatch.NOQUEUE, x -> x.call(Mixed.RUNNING, Mixed.QUEUES, false));
    }

    /** The chain 5, 4, 3, 0; the first caller has that home, and the last of the callers is RUNNING. */
    private static BarrierDispatch callers(int[] widths, int home, boolean barrier, int depth) {
        BarrierDispatch x = new BarrierDispatch(8);
        x.queue(0, widths[0]);
        x.queue(3, widths[1]);
        x.queue(4, widths[2]);
        x.submit(home, barrier, -1);
        x.begin();
        for (int caller = 0; caller < depth; caller++) {
            x.call(caller, 2, false);
            x.begin();
        }
        return x;
    }

    private static void deadlockByWidthOne() {
        DUE.part("promise 6: DEADLOCK, the width of x is 1");
        for (int narrow = 3; narrow <= 5; narrow++) {
            for (int width = 1; width <= 3; width++) {
                int[] widths = {8, 8, 8};
                widths[narrow - 3] = width;
                for (int home = 3; home <= 5; home++) {
                    for (int q = 3; q <= 5; q++) {
                        boolean deadlock = width == 1 && narrow <= home && narrow <= q;
                        calls("width " + width + " of " + narrow, widths, home, false, q, false, deadlock);
                    }
                }
            }
        }
    }

    private static void deadlockByABarrierAmongTheCallers() {
        DUE.part("promise 6: DEADLOCK, c is a barrier with home x");
        int[] widths = {8, 2, 8};
        for (int home = 3; home <= 5; home++) {
            for (int q = 3; q <= 5; q++) {
                calls("a barrier calls", widths, home, true, q, false, home <= q);
                calls("no barrier calls", widths, home, false, q, false, false);
            }
        }
    }

    private static void deadlockByTheNewBarrier() {
        DUE.part("promise 6: DEADLOCK, the new block is to be a barrier and x is q");
        int[] widths = {2, 8, 2};
        for (int home = 3; home <= 5; home++) {
            for (int q = 3; q <= 5; q++) {
                calls("a barrier is called", widths, home, false, q, true, q <= home);
                calls("both are barriers", widths, home, true, q, true, true);
            }
        }
    }

    private static void calls(String what, int[] widths, int home, boolean barrier, int q, boolean newBarrier,
            boolean deadlock) {
        for (int depth : DEPTHS) {
            BarrierDispatch x = callers(widths, home, barrier, depth);
            String name = what + ", home " + home + ", depth " + depth + ", q " + q;
            DUE.is(name, deadlock ? BarrierDispatch.DEADLOCK : depth + 1, x.call(depth, q, newBarrier));
            DUE.is(name + ", state of the caller", deadlock ? 3 : 4, x.state(depth));
            DUE.is(name + ", queued", deadlock ? 0 : 1, x.queued(q));
        }
    }

    private static void deadlockOnlyByTheCallers() {
        DUE.part("promise 6: c is the caller, the caller's caller, and so on, and no other block");
        BarrierDispatch x = new BarrierDispatch(8);
        x.queue(0, 1);
        x.queue(0, 2);
        x.submit(3, false, -1);
        x.submit(4, true, -1);
        x.submit(0, false, -1);
        for (int i = 0; i < 3; i++) {
            x.begin();
        }
        DUE.is("another block is in the narrow queue", 3, x.call(2, 3, false));
        DUE.is("it has to wait", BarrierDispatch.IDLE, x.begin());
        DUE.is("the narrow queue's block calls beside the barrier", 4, x.call(0, 4, true));
        x.finish(1);
        DUE.is("the barrier is done, begin()", 4, x.begin());
        DUE.is("the first caller's narrow queue", BarrierDispatch.DEADLOCK, x.call(4, 3, false));
    }

    private static void deadlockOnlyByCallsThatStand() {
        DUE.part("promise 6: a caller that has its answer no longer counts for others");
        BarrierDispatch x = new BarrierDispatch(8);
        x.queue(0, 1);
        x.queue(1, 1);
        x.submit(3, false, -1);
        x.begin();
        x.call(0, 4, false);
        x.begin();
        DUE.is("call(1, 3, false)", BarrierDispatch.DEADLOCK, x.call(1, 3, false));
        x.finish(1);
        DUE.is("the called one is DONE, call(0, 4, false)", 2, x.call(0, 4, false));
        DUE.is("begin()", 2, x.begin());
        x.finish(2);
        x.finish(0);
        x.submit(4, false, -1);
        x.begin();
        DUE.is("all are DONE, call(3, 3, false)", 4, x.call(3, 3, false));
    }

    private static void noDeadlockAtARoot() {
        DUE.part("promise 6: DEADLOCK only for some queue x that is no root");
        for (int root = 0; root <= 2; root++) {
            BarrierDispatch x = new BarrierDispatch(1);
            x.queue(root, 8);
            x.submit(root, true, -1);
            x.begin();
            DUE.is("the same root", 1, x.call(0, root, true));
            DUE.is("it is no barrier, begin()", 1, x.begin());
            DUE.is("a queue on the root", 2, x.call(1, 3, true));
            DUE.is("begin()", 2, x.begin());
            DUE.is("the root of a barrier's chain", 3, x.call(2, root, true));
            DUE.is("begin()", 3, x.begin());
            DUE.is("through the root", 4, x.through(root));
        }
    }

    private static void noDeadlockWhenTheCallersUseUpAWidth() {
        DUE.part("promise 6: DEADLOCK when one of these holds, and a width above 1 is none of them");
        for (int width = 2; width <= 8; width++) {
            BarrierDispatch x = new BarrierDispatch(1);
            x.queue(0, width);
            x.queue(3, 8);
            x.submit(3, false, -1);
            x.begin();
            for (int caller = 0; caller < width - 1; caller++) {
                x.call(caller, caller % 2 == 0 ? 4 : 3, false);
                x.begin();
            }
            String name = "width " + width + " is in use by the callers alone";
            DUE.is(name + ", through(3)", width, x.through(3));
            DUE.is(name + ", call", width, x.call(width - 1, 4, false));
            DUE.is(name + ", state of the caller", 4, x.state(width - 1));
            DUE.is(name + ", state of the called", 2, x.state(width));
            DUE.is(name + ", it never starts", BarrierDispatch.IDLE, x.begin());
            DUE.is(name + ", ready()", 0, x.ready());
        }
    }

    private static void noDeadlockByWhatIsInTheWayNow() {
        DUE.part("promise 6: DEADLOCK when one of these holds, and no hold or other block is one of them");
        BarrierDispatch x = new BarrierDispatch(3);
        x.queue(0, 2);
        x.submit(3, false, -1);
        x.submit(3, true, -1);
        x.submit(1, false, -1);
        x.begin();
        x.begin();
        DUE.is("behind a barrier that waits for the caller", 3, x.call(0, 3, false));
        DUE.is("begin()", BarrierDispatch.IDLE, x.begin());
        x.hold(3, true);
        DUE.is("a barrier to a held queue", 4, x.call(2, 3, true));
        DUE.is("queued(3)", 3, x.queued(3));
        DUE.is("begin()", BarrierDispatch.IDLE, x.begin());
    }

    private static void deadlockChangesNothing() {
        DUE.part("promise 6: DEADLOCK changes nothing");
        MIXED.is("call(2, 4, true)", BarrierDispatch.DEADLOCK, x -> x.call(Mixed.RUNNING, 4, true));
        MIXED.is("call(2, 3, true)", BarrierDispatch.DEADLOCK, x -> x.call(Mixed.RUNNING, 3, true));
        NoChange narrow = new NoChange(DUE, 8, x -> {
            x.queue(0, 1);
            x.queue(3, 4);
            x.submit(4, false, 1);
            x.begin();
            x.submit(4, false, 1);
        });
        narrow.is("call(0, 3, false)", BarrierDispatch.DEADLOCK, x -> x.call(0, 3, false));
        narrow.is("call(0, 4, false)", BarrierDispatch.DEADLOCK, x -> x.call(0, 4, false));
        NoChange barrier = new NoChange(DUE, 8, x -> {
            x.queue(0, 4);
            x.submit(3, true, 1);
            x.begin();
            x.submit(3, false, 1);
        });
        barrier.is("call(0, 3, false)", BarrierDispatch.DEADLOCK, x -> x.call(0, 3, false));
    }

    private static void fullWith160Blocks() {
        DUE.part("promise 6: FULL when 160 blocks were accepted");
        BarrierDispatch x = new BarrierDispatch(2);
        x.submit(0, false, -1);
        x.begin();
        Edges.submitBlocks(x, 1, 158);
        DUE.is("with 158 blocks", 158, x.call(0, 2, false));
        DUE.is("begin()", 158, x.begin());
        DUE.is("with 159 blocks", 159, x.call(158, 2, false));
        DUE.is("begin()", 159, x.begin());
        DUE.is("with 160 blocks", BarrierDispatch.FULL, x.call(159, 2, false));
        DUE.is("the caller goes on", 3, x.state(159));
        DUE.is("queued(2)", 0, x.queued(2));
        FULL.is("call(2, 0, false)", BarrierDispatch.FULL, y -> y.call(Mixed.RUNNING, 0, false));
        FULL.is("call(2, 7, true)", BarrierDispatch.FULL, y -> y.call(Mixed.RUNNING, 7, true));
    }

    private static void noBlockBeforeTheOthers() {
        DUE.part("promise 6: NOBLOCK is named before NOQUEUE, DEADLOCK and FULL");
        int[] noQueues = {-1, Mixed.QUEUES, 12};
        for (int q : noQueues) {
            MIXED.is("NOQUEUE, call(3, " + q + ")", BarrierDispatch.NOBLOCK, x -> x.call(Mixed.WAITING, q, false));
            MIXED.is("NOQUEUE, call(13, " + q + ")", BarrierDispatch.NOBLOCK, x -> x.call(Mixed.BLOCKS, q, false));
            FULL.is("NOQUEUE, FULL, call(-1, " + q + ")", BarrierDispatch.NOBLOCK, x -> x.call(-1, q, false));
            FULL.is("NOQUEUE, FULL, call(0, " + q + ")", BarrierDispatch.NOBLOCK, x -> x.call(Mixed.DONE, q, false));
        }
        MIXED.is("DEADLOCK, a WAITING one", BarrierDispatch.NOBLOCK, x -> x.call(Mixed.WAITING, 7, true));
        MIXED.is("DEADLOCK, a QUEUED one of width 1", BarrierDispatch.NOBLOCK, x -> x.call(Mixed.CALLED, 5, false));
        MIXED.is("DEADLOCK, a QUEUED barrier", BarrierDispatch.NOBLOCK, x -> x.call(Mixed.BARRIER, 3, false));
        FULL.is("DEADLOCK, FULL, a WAITING one", BarrierDispatch.NOBLOCK, x -> x.call(Mixed.WAITING, 7, true));
        FULL.is("FULL, a WAITING one", BarrierDispatch.NOBLOCK, x -> x.call(Mixed.WAITING, 0, false));
        FULL.is("FULL, a QUEUED one", BarrierDispatch.NOBLOCK, x -> x.call(159, 0, false));
        FULL.is("FULL, no block", BarrierDispatch.NOBLOCK, x -> x.call(160, 0, false));
    }

    private static void noQueueBeforeFull() {
        DUE.part("promise 6: NOQUEUE is named before FULL");
        for (int q : Edges.NEVER_QUEUES) {
            FULL.is("call(2, " + q + ", false)", BarrierDispatch.NOQUEUE, x -> x.call(Mixed.RUNNING, q, false));
        }
        FULL.is("call(2, 8, true)", BarrierDispatch.NOQUEUE, x -> x.call(Mixed.RUNNING, Mixed.QUEUES, true));
    }

    private static void deadlockBeforeFull() {
        DUE.part("promise 6: DEADLOCK is named before FULL");
        FULL.is("call(2, 4, true)", BarrierDispatch.DEADLOCK, x -> x.call(Mixed.RUNNING, 4, true));
        FULL.is("call(2, 3, true)", BarrierDispatch.DEADLOCK, x -> x.call(Mixed.RUNNING, 3, true));
    }
}
