/** Promise 7, whenDone: its edges, sentence by sentence. */
public final class Promise07Test {
    private static final Due DUE = new Due();
    private static final NoChange NEW = new NoChange(DUE, 2, x -> { });
    private static final NoChange MIXED = new NoChange(DUE, Mixed.WORKERS, Mixed::set);
    private static final NoChange FULL = new NoChange(DUE, Mixed.WORKERS, Mixed::setFull);

    public static void main(String[] args) {
        queuedAtOnceWhenTheCountIsZero();
        heldWhenEntered();
        heldWhenAMemberIsOpen();
        queuedAgainAfterTheLast();
        noBarrierNoMember();
        noGroup();
        noQueue();
        fullWith160Blocks();
        noGroupBeforeNoQueue();
        noGroupBeforeFull();
        noQueueBeforeFull();
        DUE.end();
    }

    private static void queuedAtOnceWhenTheCountIsZero() {
        DUE.part("promise 7: when the count is 0 now, it is QUEUED at once");
        for (int group = 0; group <= 3; group++) {
            BarrierDispatch x = new BarrierDispatch(1);
            for (int other = 0; other <= 3; other++) {
                if (other != group) {
                    x.enter(other);
                }
            }
            DUE.is("whenDone(" + group + ", 0)", 0, x.whenDone(group, 0));
            DUE.is("state(0)", 2, x.state(0));
            DUE.is("queued(0)", 1, x.queued(0));
            DUE.is("count(" + group + ")", 0, x.count(group));
        }
    }

    private static void heldWhenEntered() {
        DUE.part("promise 7: otherwise it is a HELD block of the group (entered count 1, 2, 200)");
        int[] counts = {1, 2, 199, 200};
        for (int count : counts) {
            BarrierDispatch x = new BarrierDispatch(1);
            for (int i = 0; i < count; i++) {
                x.enter(3);
            }
            DUE.is("count " + count + ", whenDone(3, 2)", 0, x.whenDone(3, 2));
            DUE.is("count " + count + ", state(0)", 0, x.state(0));
            for (int left = count; left > 1; left--) {
                x.leave(3);
            }
            DUE.is("count 1, state(0)", 0, x.state(0));
            x.leave(3);
            DUE.is("count 0, state(0)", 2, x.state(0));
        }
    }

    private static void heldWhenAMemberIsOpen() {
        DUE.part("promise 7: otherwise it is a HELD block of the group (a member in each state)");
        BarrierDispatch x = new BarrierDispatch(2);
        x.submit(0, false, 0);
        x.whenDone(0, 1);
        DUE.is("the member is QUEUED, state(1)", 0, x.state(1));
        DUE.is("ready()", 1, x.ready());
        x.begin();
        x.whenDone(0, 1);
        DUE.is("the member is RUNNING, state(2)", 0, x.state(2));
        x.call(0, 2, false);
        x.whenDone(0, 1);
        DUE.is("the member is WAITING, state(4)", 0, x.state(4));
        x.begin();
        x.finish(3);
        DUE.is("the called block is DONE, the member is not, state(1)", 0, x.state(1));
        x.finish(0);
        x.whenDone(0, 1);
        DUE.is("the member is DONE, state(5)", 2, x.state(5));
        DUE.is("and the HELD ones are QUEUED, queued(1)", 4, x.queued(1));
        x.submit(0, false, 1);
        x.cancel(6);
        x.whenDone(1, 2);
        DUE.is("the member is cancelled, state(7)", 0, x.state(7));
    }

    private static void queuedAgainAfterTheLast() {
        DUE.part("promise 7: the count goes to 0 and up again");
        BarrierDispatch x = new BarrierDispatch(1);
        for (int round = 0; round < 5; round++) {
            x.enter(1);
            DUE.is("entered, whenDone(1, 0)", 2 * round, x.whenDone(1, 0));
            DUE.is("HELD", 0, x.state(2 * round));
            x.leave(1);
            DUE.is("QUEUED", 2, x.state(2 * round));
            DUE.is("left, whenDone(1, 0)", 2 * round + 1, x.whenDone(1, 0));
            DUE.is("QUEUED at once", 2, x.state(2 * round + 1));
        }
        x.enter(1);
        DUE.is("a QUEUED block stays QUEUED", 10, x.queued(0));
    }

    private static void noBarrierNoMember() {
        DUE.part("promise 7: no barrier, no member");
        BarrierDispatch x = new BarrierDispatch(8);
        x.queue(0, 3);
        x.enter(2);
        x.whenDone(2, 3);
        x.whenDone(2, 3);
        DUE.is("count(2)", 1, x.count(2));
        x.leave(2);
        x.whenDone(2, 3);
        DUE.is("count(2)", 0, x.count(2));
        for (int ticket = 0; ticket < 3; ticket++) {
            DUE.is("beside the others, begin()", ticket, x.begin());
            DUE.is("count(2)", 0, x.count(2));
        }
    }

    private static void noGroup() {
        DUE.part("promise 7: NOGROUP when group is not 0 .. 3");
        for (int group : Edges.NEVER_GROUPS) {
            NEW.is("whenDone(" + group + ", 0)", BarrierDispatch.NOGROUP, x -> x.whenDone(group, 0));
            MIXED.is("whenDone(" + group + ", 7)", BarrierDispatch.NOGROUP, x -> x.whenDone(group, 7));
        }
    }

    private static void noQueue() {
        DUE.part("promise 7: NOQUEUE when there is no queue q");
        for (int q : Edges.NEVER_QUEUES) {
            NEW.is("whenDone(0, " + q + ")", BarrierDispatch.NOQUEUE, x -> x.whenDone(0, q));
            MIXED.is("count above 0, whenDone(2, " + q + ")", BarrierDispatch.NOQUEUE, x -> x.whenDone(2, q));
        }
        NEW.is("whenDone(3, 3)", BarrierDispatch.NOQUEUE, x -> x.whenDone(3, 3));
        MIXED.is("whenDone(2, 8)", BarrierDispatch.NOQUEUE, x -> x.whenDone(2, Mixed.QUEUES));
        BarrierDispatch x = new BarrierDispatch(1);
        Edges.makeQueues(x, 3, Edges.MOST_QUEUES);
        for (int q = 0; q <= 11; q++) {
            DUE.is("whenDone(1, " + q + ")", q, x.whenDone(1, q));
        }
        DUE.is("whenDone(1, 12)", BarrierDispatch.NOQUEUE, x.whenDone(1, 12));
    }

    private static void fullWith160Blocks() {
        DUE.part("promise 7: FULL when 160 blocks were accepted");
        for (int entered = 0; entered <= 1; entered++) {
            BarrierDispatch x = new BarrierDispatch(1);
            if (entered == 1) {
                x.enter(0);
            }
            Edges.submitBlocks(x, 0, 159);
            DUE.is("with 159 blocks, whenDone(0, 0)", 159, x.whenDone(0, 0));
            DUE.is("with 160 blocks, whenDone(0, 0)", BarrierDispatch.FULL, x.whenDone(0, 0));
            DUE.is("state(159)", entered == 1 ? 0 : 2, x.state(159));
            DUE.is("state(160)", BarrierDispatch.NOBLOCK, x.state(160));
        }
        FULL.is("count above 0, whenDone(2, 7)", BarrierDispatch.FULL, x -> x.whenDone(2, 7));
        FULL.is("the empty group, whenDone(1, 0)", BarrierDispatch.FULL, x -> x.whenDone(1, 0));
    }

    private static void noGroupBeforeNoQueue() {
        DUE.part("promise 7: NOGROUP is named before NOQUEUE");
        for (int group : Edges.NEVER_GROUPS) {
            NEW.is("whenDone(" + group + ", 3)", BarrierDispatch.NOGROUP, x -> x.whenDone(group, 3));
            MIXED.is("whenDone(" + group + ", -1)", BarrierDispatch.NOGROUP, x -> x.whenDone(group, -1));
        }
    }

    private static void noGroupBeforeFull() {
        DUE.part("promise 7: NOGROUP is named before FULL");
        for (int group : Edges.NEVER_GROUPS) {
            FULL.is("whenDone(" + group + ", 0)", BarrierDispatch.NOGROUP, x -> x.whenDone(group, 0));
            FULL.is("NOQUEUE too, whenDone(" + group + ", 8)", BarrierDispatch.NOGROUP, x -> x.whenDone(group, 8));
        }
    }

    private static void noQueueBeforeFull() {
        DUE.part("promise 7: NOQUEUE is named before FULL");
        for (int q : Edges.NEVER_QUEUES) {
            FULL.is("whenDone(0, " + q + ")", BarrierDispatch.NOQUEUE, x -> x.whenDone(0, q));
        }
        FULL.is("whenDone(2, 8)", BarrierDispatch.NOQUEUE, x -> x.whenDone(2, Mixed.QUEUES));
    }
}
