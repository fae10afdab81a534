/** Promise 19, peak: its edges, sentence by sentence. */
public final class Promise19Test {
    private static final Due DUE = new Due();
    private static final NoChange NEW = new NoChange(DUE, 2, x -> { });
    private static final NoChange MIXED = new NoChange(DUE, Mixed.WORKERS, Mixed::set);

    public static void main(String[] args) {
        peaksOfTheMixedScene();
        atOneTime();
        greatestSoFar();
        asTheChainsWere();
        skippedBlocksNeverPassed();
        noQueue();
        DUE.end();
    }

    private static void peaksOfTheMixedScene() {
        DUE.part("promise 19: the greatest number of live blocks that passed through q");
        int[] due = {1, 1, 1, 1, 1, 0, 1, 1};
        for (int q = 0; q < due.length; q++) {
            int asked = q;
            MIXED.is("peak(" + q + ")", due[q], x -> x.peak(asked));
        }
    }

    private static void atOneTime() {
        DUE.part("promise 19: at one time");
        BarrierDispatch x = new BarrierDispatch(8);
        for (int ticket = 0; ticket < 5; ticket++) {
            x.submit(0, false, -1);
            x.begin();
            x.finish(ticket);
            DUE.is("one after the other, peak(0)", 1, x.peak(0));
        }
        Edges.submitBlocks(x, 5, 13);
        for (int live = 1; live <= 8; live++) {
            x.begin();
            DUE.is("beside one another, peak(1)", live, x.peak(1));
        }
        DUE.is("peak(0)", 1, x.peak(0));
    }

    private static void greatestSoFar() {
        DUE.part("promise 19: so far");
        BarrierDispatch x = new BarrierDispatch(8);
        Edges.submitBlocks(x, 0, 6);
        DUE.is("only QUEUED, peak(1)", 0, x.peak(1));
        x.begin();
        x.begin();
        x.begin();
        x.finish(0);
        x.finish(1);
        DUE.is("down to 1, peak(1)", 3, x.peak(1));
        x.begin();
        DUE.is("up to 2, peak(1)", 3, x.peak(1));
        x.begin();
        DUE.is("up to 3, peak(1)", 3, x.peak(1));
        x.begin();
        DUE.is("up to 4, peak(1)", 4, x.peak(1));
        x.call(2, 1, false);
        DUE.is("a WAITING one stays, peak(1)", 4, x.peak(1));
        x.begin();
        DUE.is("up to 5, peak(1)", 5, x.peak(1));
    }

    private static void asTheChainsWere() {
        DUE.part("promise 19: as the chains were at that time");
        BarrierDispatch x = new BarrierDispatch(8);
        x.queue(0, 8);
        x.queue(3, 8);
        x.submit(4, false, -1);
        x.submit(4, false, -1);
        x.begin();
        x.begin();
        x.finish(0);
        x.finish(1);
        x.retarget(4, 1);
        int[] before = {2, 0, 0, 2, 2};
        for (int q = 0; q < before.length; q++) {
            DUE.is("peak(" + q + ")", before[q], x.peak(q));
        }
        x.submit(4, false, -1);
        x.begin();
        DUE.is("a new queue below a live block's home", 5, x.queue(4, 1));
        int[] after = {2, 1, 0, 2, 2, 0};
        for (int q = 0; q < after.length; q++) {
            DUE.is("peak(" + q + ")", after[q], x.peak(q));
        }
    }

    private static void skippedBlocksNeverPassed() {
        DUE.part("promise 19: a SKIPPED block was never live");
        BarrierDispatch x = new BarrierDispatch(8);
        x.submit(0, false, -1);
        x.cancel(0);
        x.begin();
        DUE.is("peak(0)", 0, x.peak(0));
    }

    private static void noQueue() {
        DUE.part("promise 19: NOQUEUE when there is no queue q");
        for (int q : Edges.NEVER_QUEUES) {
            NEW.is("peak(" + q + ")", BarrierDispatch.NOQUEUE, x -> x.peak(q));
            MIXED.is("peak(" + q + ")", BarrierDispatch.NOQUEUE, x -> x.peak(q));
        }
        NEW.is("peak(3)", BarrierDispatch.NOQUEUE, x -> x.peak(3));
        MIXED.is("peak(8)", BarrierDispatch.NOQUEUE, x -> x.peak(Mixed.QUEUES));
        BarrierDispatch x = new BarrierDispatch(1);
        Edges.makeQueues(x, 3, Edges.MOST_QUEUES);
        DUE.is("twelve queues, peak(11)", 0, x.peak(11));
        DUE.is("twelve queues, peak(12)", BarrierDispatch.NOQUEUE, x.peak(12));
    }
}
