/** Promise 17, queued: its edges, sentence by sentence. */
public final class Promise17Test {
    private static final Due DUE = new Due();
    private static final NoChange NEW = new NoChange(DUE, 2, x -> { });
    private static final NoChange MIXED = new NoChange(DUE, Mixed.WORKERS, Mixed::set);

    public static void main(String[] args) {
        onlyQueuedBlocks();
        onlyTheHome();
        fromNoneToAll();
        noQueue();
        DUE.end();
    }

    private static void onlyQueuedBlocks() {
        DUE.part("promise 17: the number of QUEUED blocks with home q");
        int[] due = {0, 0, 1, 1, 0, 1, 1, 0};
        for (int q = 0; q < due.length; q++) {
            int asked = q;
            MIXED.is("queued(" + q + ")", due[q], x -> x.queued(asked));
        }
    }

    private static void onlyTheHome() {
        DUE.part("promise 17: with home q, not in its chain");
        BarrierDispatch x = new BarrierDispatch(1);
        x.queue(0, 1);
        x.queue(3, 1);
        x.submit(4, false, -1);
        x.submit(4, true, -1);
        int[] due = {0, 0, 0, 0, 2};
        for (int q = 0; q < due.length; q++) {
            DUE.is("queued(" + q + ")", due[q], x.queued(q));
        }
    }

    private static void fromNoneToAll() {
        DUE.part("promise 17: from 0 to 160 and back");
        BarrierDispatch x = new BarrierDispatch(1);
        for (int blocks = 0; blocks < 160; blocks++) {
            DUE.is("queued(1)", blocks, x.queued(1));
            x.submit(1, false, -1);
        }
        DUE.is("queued(1)", 160, x.queued(1));
        x.submit(1, false, -1);
        DUE.is("after a refused call, queued(1)", 160, x.queued(1));
        x.begin();
        DUE.is("one is RUNNING, queued(1)", 159, x.queued(1));
        BarrierDispatch y = new BarrierDispatch(1);
        y.submit(1, false, -1);
        y.cancel(0);
        DUE.is("a cancelled one is QUEUED, queued(1)", 1, y.queued(1));
        y.begin();
        DUE.is("a SKIPPED one is not, queued(1)", 0, y.queued(1));
        y.submit(1, false, -1);
        DUE.is("an empty line is used again, queued(1)", 1, y.queued(1));
        y.begin();
        DUE.is("queued(1)", 0, y.queued(1));
    }

    private static void noQueue() {
        DUE.part("promise 17: NOQUEUE when there is no queue q");
        for (int q : Edges.NEVER_QUEUES) {
            NEW.is("queued(" + q + ")", BarrierDispatch.NOQUEUE, x -> x.queued(q));
            MIXED.is("queued(" + q + ")", BarrierDispatch.NOQUEUE, x -> x.queued(q));
        }
        NEW.is("queued(3)", BarrierDispatch.NOQUEUE, x -> x.queued(3));
        MIXED.is("queued(8)", BarrierDispatch.NOQUEUE, x -> x.queued(Mixed.QUEUES));
        BarrierDispatch x = new BarrierDispatch(1);
        Edges.makeQueues(x, 3, Edges.MOST_QUEUES);
        DUE.is("twelve queues, queued(11)", 0, x.queued(11));
        DUE.is("twelve queues, queued(12)", BarrierDispatch.NOQUEUE, x.queued(12));
    }
}
