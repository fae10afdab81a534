/** Promise 18, through: its edges, sentence by sentence. */
public final class Promise18Test {
    private static final Due DUE = new Due();
    private static final NoChange NEW = new NoChange(DUE, 2, x -> { });
    private static final NoChange MIXED = new NoChange(DUE, Mixed.WORKERS, Mixed::set);

    public static void main(String[] args) {
        onlyLiveBlocks();
        allQueuesOfTheChain();
        manyThroughARoot();
        noQueue();
        DUE.end();
    }

    private static void onlyLiveBlocks() {
        DUE.part("promise 18: the number of live blocks that pass through q");
        int[] due = {1, 0, 1, 1, 1, 0, 1, 1};
        for (int q = 0; q < due.length; q++) {
            int asked = q;
            MIXED.is("through(" + q + ")", due[q], x -> x.through(asked));
        }
        BarrierDispatch x = new BarrierDispatch(1);
        x.submit(0, false, -1);
        DUE.is("QUEUED, through(0)", 0, x.through(0));
        x.begin();
        DUE.is("RUNNING, through(0)", 1, x.through(0));
        x.call(0, 0, false);
        DUE.is("WAITING, through(0)", 1, x.through(0));
        x.cancel(1);
        x.begin();
        DUE.is("one is SKIPPED, through(0)", 1, x.through(0));
        x.finish(0);
        DUE.is("DONE, through(0)", 0, x.through(0));
    }

    private static void allQueuesOfTheChain() {
        DUE.part("promise 18: it passes through all queues of its home's chain");
        for (int home = 3; home <= 11; home++) {
            BarrierDispatch x = new BarrierDispatch(1);
            x.queue(1, 8);
            for (int target = 3; target < 11; target++) {
                x.queue(target, 8);
            }
            x.submit(home, false, -1);
            x.begin();
            for (int q = 0; q <= 11; q++) {
                boolean passes = q == 1 || q >= 3 && q <= home;
                DUE.is("home " + home + ", through(" + q + ")", passes ? 1 : 0, x.through(q));
            }
        }
    }

    private static void manyThroughARoot() {
        DUE.part("promise 18: 160 live blocks");
        BarrierDispatch x = new BarrierDispatch(1);
        x.submit(0, false, -1);
        x.begin();
        for (int caller = 0; caller < 159; caller++) {
            x.call(caller, 0, false);
            x.begin();
        }
        DUE.is("through(0)", 160, x.through(0));
        DUE.is("peak(0)", 160, x.peak(0));
        x.finish(159);
        DUE.is("through(0)", 159, x.through(0));
        DUE.is("peak(0)", 160, x.peak(0));
    }

    private static void noQueue() {
        DUE.part("promise 18: NOQUEUE when there is no queue q");
        for (int q : Edges.NEVER_QUEUES) {
            NEW.is("through(" + q + ")", BarrierDispatch.NOQUEUE, x -> x.through(q));
            MIXED.is("through(" + q + ")", BarrierDispatch.NOQUEUE, x -> x.through(q));
        }
        NEW.is("through(3)", BarrierDispatch.NOQUEUE, x -> x.through(3));
        MIXED.is("through(8)", BarrierDispatch.NOQUEUE, x -> x.through(Mixed.QUEUES));
        BarrierDispatch x = new BarrierDispatch(1);
        Edges.makeQueues(x, 3, Edges.MOST_QUEUES);
        DUE.is("twelve queues, through(11)", 0, x.through(11));
        DUE.is("twelve queues, through(12)", BarrierDispatch.NOQUEUE, x.through(12));
    }
}
