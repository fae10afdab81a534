/** Promise 3, retarget: its edges, sentence by sentence. */
public final class Promise03Test {
    private static final Due DUE = new Due();
    private static final NoChange NEW = new NoChange(DUE, 2, x -> { });
    private static final NoChange MIXED = new NoChange(DUE, Mixed.WORKERS, Mixed::set);
    private static final NoChange LONG = new NoChange(DUE, 2, Promise03Test::longChain);
    private static final NoChange BUSY = new NoChange(DUE, 2, Promise03Test::busyChain);

    public static void main(String[] args) {
        answersZero();
        sameTarget();
        noQueueQ();
        rootIsNoChange();
        noQueueTarget();
        cycle();
        busyWithOneLiveBlock();
        busyWithTheSameTarget();
        busyWhileWaiting();
        notBusyWithoutLiveBlocks();
        noQueueBeforeCycle();
        noQueueBeforeBusy();
        cycleBeforeBusy();
        DUE.end();
    }

    /** 11 on 10 on .. on 3 on 0. */
    private static void longChain(BarrierDispatch x) {
        x.queue(0, 8);
        for (int target = 3; target < 11; target++) {
            x.queue(target, 8);
        }
    }

    private static void busyChain(BarrierDispatch x) {
        longChain(x);
        x.submit(7, false, -1);
        x.begin();
    }

    private static void answersZero() {
        DUE.part("promise 3: queue q gets another target; answers 0");
        for (int target = 0; target <= 6; target++) {
            BarrierDispatch x = new BarrierDispatch(2);
            longChain(x);
            DUE.is("retarget(7, " + target + ")", 0, x.retarget(7, target));
            x.submit(11, false, -1);
            x.begin();
            for (int q = 0; q <= 11; q++) {
                boolean inChain = q >= 7 || q == target || q >= 3 && q <= target || q == 0 && target >= 3;
                DUE.is("with target " + target + ", through(" + q + ")", inChain ? 1 : 0, x.through(q));
            }
        }
    }

    private static void sameTarget() {
        DUE.part("promise 3: answers 0 also when it is the target that q has");
        BarrierDispatch x = new BarrierDispatch(2);
        longChain(x);
        DUE.is("retarget(3, 0)", 0, x.retarget(3, 0));
        for (int q = 4; q <= 11; q++) {
            DUE.is("retarget(" + q + ", " + (q - 1) + ")", 0, x.retarget(q, q - 1));
        }
        x.submit(11, false, -1);
        DUE.is("begin()", 0, x.begin());
        DUE.is("through(0)", 1, x.through(0));
    }

    private static void noQueueQ() {
        DUE.part("promise 3: NOQUEUE when there is no queue q");
        for (int q : Edges.NEVER_QUEUES) {
            NEW.is("retarget(" + q + ", 0)", BarrierDispatch.NOQUEUE, x -> x.retarget(q, 0));
            MIXED.is("retarget(" + q + ", 7)", BarrierDispatch.NOQUEUE, x -> x.retarget(q, 7));
            LONG.is("retarget(" + q + ", 11)", BarrierDispatch.NOQUEUE, x -> x.retarget(q, 11));
        }
        NEW.is("retarget(3, 0)", BarrierDispatch.NOQUEUE, x -> x.retarget(3, 0));
        MIXED.is("retarget(8, 0)", BarrierDispatch.NOQUEUE, x -> x.retarget(Mixed.QUEUES, 0));
    }

    private static void rootIsNoChange() {
        DUE.part("promise 3: NOQUEUE when q is a root");
        for (int root = 0; root <= 2; root++) {
            int q = root;
            int other = (root + 1) % 3;
            NEW.is("retarget(" + q + ", " + other + ")", BarrierDispatch.NOQUEUE, x -> x.retarget(q, other));
        }
        LONG.is("retarget(1, 11)", BarrierDispatch.NOQUEUE, x -> x.retarget(1, 11));
        LONG.is("retarget(2, 3)", BarrierDispatch.NOQUEUE, x -> x.retarget(2, 3));
        BarrierDispatch x = new BarrierDispatch(2);
        longChain(x);
        DUE.is("the first that is none, retarget(3, 2)", 0, x.retarget(3, 2));
    }

    private static void noQueueTarget() {
        DUE.part("promise 3: NOQUEUE when there is no queue target");
        for (int target : Edges.NEVER_QUEUES) {
            LONG.is("retarget(3, " + target + ")", BarrierDispatch.NOQUEUE, x -> x.retarget(3, target));
            LONG.is("retarget(11, " + target + ")", BarrierDispatch.NOQUEUE, x -> x.retarget(11, target));
            MIXED.is("retarget(5, " + target + ")", BarrierDispatch.NOQUEUE, x -> x.retarget(5, target));
            NEW.is("retarget(3, " + target + ")", BarrierDispatch.NOQUEUE, x -> x.retarget(3, target));
        }
        MIXED.is("retarget(5, 8)", BarrierDispatch.NOQUEUE, x -> x.retarget(5, Mixed.QUEUES));
    }

    private static void cycle() {
        DUE.part("promise 3: CYCLE when q is in the chain of target (so also when target is q)");
        for (int q = 3; q <= 11; q++) {
            for (int target = q; target <= 11; target++) {
                int moved = q;
                int onto = target;
                LONG.is("retarget(" + q + ", " + target + ")", BarrierDispatch.CYCLE, x -> x.retarget(moved, onto));
            }
        }
        for (int target = 0; target < 11; target++) {
            BarrierDispatch x = new BarrierDispatch(2);
            longChain(x);
            DUE.is("no cycle, retarget(11, " + target + ")", 0, x.retarget(11, target));
        }
        BarrierDispatch x = new BarrierDispatch(2);
        longChain(x);
        x.retarget(8, 0);
        DUE.is("the chain of 11 ends before 7, retarget(7, 11)", 0, x.retarget(7, 11));
        DUE.is("and now 8 is in the chain of 7", BarrierDispatch.CYCLE, x.retarget(8, 7));
    }

    private static void busyWithOneLiveBlock() {
        DUE.part("promise 3: BUSY when a live block passes through q");
        for (int q = 4; q <= 7; q++) {
            int moved = q;
            BUSY.is("retarget(" + q + ", 1)", BarrierDispatch.BUSY, x -> x.retarget(moved, 1));
            BUSY.is("retarget(" + q + ", 0)", BarrierDispatch.BUSY, x -> x.retarget(moved, 0));
        }
        BarrierDispatch x = new BarrierDispatch(2);
        busyChain(x);
        DUE.is("below its home, retarget(8, 2)", 0, x.retarget(8, 2));
        DUE.is("below its home, retarget(8, 7)", 0, x.retarget(8, 7));
        x.finish(0);
        DUE.is("with no live block, retarget(7, 1)", 0, x.retarget(7, 1));
    }

    private static void busyWithTheSameTarget() {
        DUE.part("promise 3: BUSY also when target is the target that q has");
        BUSY.is("retarget(3, 0)", BarrierDispatch.BUSY, x -> x.retarget(3, 0));
        for (int q = 4; q <= 7; q++) {
            int moved = q;
            BUSY.is("retarget(" + q + ", " + (q - 1) + ")", BarrierDispatch.BUSY, x -> x.retarget(moved, moved - 1));
        }
    }

    private static void busyWhileWaiting() {
        DUE.part("promise 3: a WAITING block is live");
        MIXED.is("its home, retarget(7, 1)", BarrierDispatch.BUSY, x -> x.retarget(7, 1));
        MIXED.is("its home's target, retarget(6, 1)", BarrierDispatch.BUSY, x -> x.retarget(6, 1));
        MIXED.is("the same target, retarget(6, 2)", BarrierDispatch.BUSY, x -> x.retarget(6, 2));
        BarrierDispatch x = new BarrierDispatch(Mixed.WORKERS);
        Mixed.set(x);
        DUE.is("the called block is only QUEUED, retarget(5, 0)", 0, x.retarget(5, 0));
    }

    private static void notBusyWithoutLiveBlocks() {
        DUE.part("promise 3: HELD, DELAYED, QUEUED, DONE and SKIPPED blocks are not live");
        BarrierDispatch x = new BarrierDispatch(2);
        x.queue(0, 1);
        x.enter(0);
        x.submit(3, false, -1);
        x.begin();
        DUE.is("RUNNING, retarget(3, 1)", BarrierDispatch.BUSY, x.retarget(3, 1));
        x.finish(0);
        DUE.is("DONE, retarget(3, 1)", 0, x.retarget(3, 1));
        x.submit(3, false, -1);
        DUE.is("QUEUED, retarget(3, 2)", 0, x.retarget(3, 2));
        x.cancel(1);
        x.begin();
        DUE.is("SKIPPED, retarget(3, 0)", 0, x.retarget(3, 0));
        x.whenDone(0, 3);
        DUE.is("HELD, retarget(3, 1)", 0, x.retarget(3, 1));
        x.after(3, 1);
        DUE.is("DELAYED, retarget(3, 2)", 0, x.retarget(3, 2));
    }

    private static void noQueueBeforeCycle() {
        DUE.part("promise 3: NOQUEUE is named before CYCLE");
        for (int root = 0; root <= 2; root++) {
            int q = root;
            NEW.is("retarget(" + q + ", " + q + ")", BarrierDispatch.NOQUEUE, x -> x.retarget(q, q));
        }
        LONG.is("retarget(0, 3)", BarrierDispatch.NOQUEUE, x -> x.retarget(0, 3));
        LONG.is("retarget(0, 11)", BarrierDispatch.NOQUEUE, x -> x.retarget(0, 11));
        NEW.is("retarget(3, 3)", BarrierDispatch.NOQUEUE, x -> x.retarget(3, 3));
        LONG.is("retarget(12, 12)", BarrierDispatch.NOQUEUE, x -> x.retarget(12, 12));
        LONG.is("retarget(-1, -1)", BarrierDispatch.NOQUEUE, x -> x.retarget(-1, -1));
    }

    private static void noQueueBeforeBusy() {
        DUE.part("promise 3: NOQUEUE is named before BUSY");
        BUSY.is("a root in use, retarget(0, 1)", BarrierDispatch.NOQUEUE, x -> x.retarget(0, 1));
        for (int target : Edges.NEVER_QUEUES) {
            BUSY.is("retarget(7, " + target + ")", BarrierDispatch.NOQUEUE, x -> x.retarget(7, target));
        }
        BUSY.is("CYCLE too, retarget(0, 0)", BarrierDispatch.NOQUEUE, x -> x.retarget(0, 0));
        BUSY.is("CYCLE too, retarget(0, 7)", BarrierDispatch.NOQUEUE, x -> x.retarget(0, 7));
    }

    private static void cycleBeforeBusy() {
        DUE.part("promise 3: CYCLE is named before BUSY");
        BUSY.is("retarget(7, 7)", BarrierDispatch.CYCLE, x -> x.retarget(7, 7));
        BUSY.is("retarget(7, 8)", BarrierDispatch.CYCLE, x -> x.retarget(7, 8));
        BUSY.is("retarget(3, 11)", BarrierDispatch.CYCLE, x -> x.retarget(3, 11));
        BUSY.is("retarget(3, 7)", BarrierDispatch.CYCLE, x -> x.retarget(3, 7));
        MIXED.is("retarget(6, 7)", BarrierDispatch.CYCLE, x -> x.retarget(6, 7));
    }
}
