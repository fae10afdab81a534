/** Promise 4, submit: its edges, sentence by sentence. */
public final class Promise04Test {
    private static final Due DUE = new Due();
    /** -1 stands for no group, so it is none of the wrong ones here. */
    private static final int[] WRONG_GROUPS = {Integer.MIN_VALUE, -3, -2, 4, 5, Integer.MAX_VALUE};
    private static final NoChange NEW = new NoChange(DUE, 2, x -> { });
    private static final NoChange MIXED = new NoChange(DUE, Mixed.WORKERS, Mixed::set);
    private static final NoChange FULL = new NoChange(DUE, Mixed.WORKERS, Mixed::setFull);

    public static void main(String[] args) {
        queuedAtOnce();
        memberOfAGroupOrOfNone();
        noQueue();
        everyQueue();
        noGroup();
        fullWith160Blocks();
        fullCountsEveryBlockOnce();
        noQueueBeforeNoGroup();
        noQueueBeforeFull();
        noGroupBeforeFull();
        DUE.end();
    }

    private static void queuedAtOnce() {
        DUE.part("promise 4: QUEUED at once: its ticket");
        BarrierDispatch x = new BarrierDispatch(1);
        for (int ticket = 0; ticket < 5; ticket++) {
            DUE.is("before, state(" + ticket + ")", BarrierDispatch.NOBLOCK, x.state(ticket));
            DUE.is("submit(0, false, -1)", ticket, x.submit(0, false, -1));
            DUE.is("after, state(" + ticket + ")", 2, x.state(ticket));
            DUE.is("queued(0)", ticket + 1, x.queued(0));
        }
    }

    private static void memberOfAGroupOrOfNone() {
        DUE.part("promise 4: a member of a group (-1: of none)");
        for (int group = -1; group <= 3; group++) {
            BarrierDispatch x = new BarrierDispatch(1);
            DUE.is("submit(0, false, " + group + ")", 0, x.submit(0, false, group));
            for (int other = 0; other <= 3; other++) {
                DUE.is("member of " + group + ", count(" + other + ")", group == other ? 1 : 0, x.count(other));
            }
        }
    }

    private static void noQueue() {
        DUE.part("promise 4: NOQUEUE when there is no queue q");
        for (int q : Edges.NEVER_QUEUES) {
            NEW.is("submit(" + q + ", false, -1)", BarrierDispatch.NOQUEUE, x -> x.submit(q, false, -1));
            MIXED.is("submit(" + q + ", true, 2)", BarrierDispatch.NOQUEUE, x -> x.submit(q, true, 2));
        }
        NEW.is("submit(3, false, 0)", BarrierDispatch.NOQUEUE, x -> x.submit(3, false, 0));
        MIXED.is("submit(8, false, 0)", BarrierDispatch.NOQUEUE, x -> x.submit(Mixed.QUEUES, false, 0));
    }

    private static void everyQueue() {
        DUE.part("promise 4: a block with home q");
        BarrierDispatch x = new BarrierDispatch(1);
        Edges.makeQueues(x, 3, Edges.MOST_QUEUES);
        for (int q = 0; q <= 11; q++) {
            DUE.is("submit(" + q + ", true, 3)", q, x.submit(q, true, 3));
            DUE.is("queued(" + q + ")", 1, x.queued(q));
        }
        DUE.is("submit(12, true, 3)", BarrierDispatch.NOQUEUE, x.submit(12, true, 3));
        DUE.is("count(3)", 12, x.count(3));
    }

    private static void noGroup() {
        DUE.part("promise 4: NOGROUP when group is not -1 .. 3");
        for (int group : WRONG_GROUPS) {
            NEW.is("submit(0, false, " + group + ")", BarrierDispatch.NOGROUP, x -> x.submit(0, false, group));
            MIXED.is("submit(7, true, " + group + ")", BarrierDispatch.NOGROUP, x -> x.submit(7, true, group));
        }
    }

    private static void fullWith160Blocks() {
        DUE.part("promise 4: FULL when 160 blocks were accepted");
        BarrierDispatch x = new BarrierDispatch(1);
        Edges.submitBlocks(x, 0, 159);
        DUE.is("with 159 blocks, state(159)", BarrierDispatch.NOBLOCK, x.state(159));
        DUE.is("with 159 blocks, submit(0, false, -1)", 159, x.submit(0, false, -1));
        DUE.is("with 160 blocks, submit(0, false, -1)", BarrierDispatch.FULL, x.submit(0, false, -1));
        DUE.is("again, submit(2, true, 3)", BarrierDispatch.FULL, x.submit(2, true, 3));
        DUE.is("state(159)", 2, x.state(159));
        DUE.is("state(160)", BarrierDispatch.NOBLOCK, x.state(160));
        FULL.is("submit(0, false, -1)", BarrierDispatch.FULL, y -> y.submit(0, false, -1));
        FULL.is("submit(7, true, 0)", BarrierDispatch.FULL, y -> y.submit(7, true, 0));
        FULL.is("submit(3, true, 3)", BarrierDispatch.FULL, y -> y.submit(3, true, 3));
    }

    private static void fullCountsEveryBlockOnce() {
        DUE.part("promise 4: accepted in all, also those that are DONE or SKIPPED");
        BarrierDispatch x = new BarrierDispatch(1);
        Edges.submitBlocks(x, 0, 160);
        for (int ticket = 0; ticket < 80; ticket++) {
            x.begin();
            x.finish(ticket);
        }
        for (int ticket = 80; ticket < 160; ticket++) {
            x.cancel(ticket);
        }
        DUE.is("all are skipped, begin()", BarrierDispatch.IDLE, x.begin());
        DUE.is("queued(1)", 0, x.queued(1));
        DUE.is("submit(0, false, -1)", BarrierDispatch.FULL, x.submit(0, false, -1));
    }

    private static void noQueueBeforeNoGroup() {
        DUE.part("promise 4: NOQUEUE is named before NOGROUP");
        for (int group : WRONG_GROUPS) {
            NEW.is("submit(3, false, " + group + ")", BarrierDispatch.NOQUEUE, x -> x.submit(3, false, group));
            MIXED.is("submit(-1, true, " + group + ")", BarrierDispatch.NOQUEUE, x -> x.submit(-1, true, group));
        }
    }

    private static void noQueueBeforeFull() {
        DUE.part("promise 4: NOQUEUE is named before FULL");
        for (int q : Edges.NEVER_QUEUES) {
            FULL.is("submit(" + q + ", false, -1)", BarrierDispatch.NOQUEUE, x -> x.submit(q, false, -1));
            FULL.is("NOGROUP too, submit(" + q + ", false, 4)", BarrierDispatch.NOQUEUE, x -> x.submit(q, false, 4));
        }
        FULL.is("submit(8, true, 0)", BarrierDispatch.NOQUEUE, x -> x.submit(Mixed.QUEUES, true, 0));
    }

    private static void noGroupBeforeFull() {
        DUE.part("promise 4: NOGROUP is named before FULL");
        for (int group : WRONG_GROUPS) {
            FULL.is("submit(7, false, " + group + ")", BarrierDispatch.NOGROUP, x -> x.submit(7, false, group));
        }
    }
}
