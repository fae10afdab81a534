/** Promise 13, finish: its edges, sentence by sentence. */
public final class Promise13Test {
    private static final Due DUE = new Due();
    private static final NoChange NEW = new NoChange(DUE, 2, x -> { });
    private static final NoChange MIXED = new NoChange(DUE, Mixed.WORKERS, Mixed::set);
    private static final NoChange FULL = new NoChange(DUE, Mixed.WORKERS, Mixed::setFull);

    public static void main(String[] args) {
        becomesDone();
        itsCallerRuns();
        noSuchBlock();
        notRunning();
        lastTicket();
        freesWhatItUsed();
        theLastMemberFreesTheHeld();
        DUE.end();
    }

    private static void becomesDone() {
        DUE.part("promise 13: a RUNNING block becomes DONE");
        BarrierDispatch x = new BarrierDispatch(2);
        x.submit(0, false, -1);
        DUE.no("QUEUED, finish(0)", x.finish(0));
        x.begin();
        DUE.yes("RUNNING, finish(0)", x.finish(0));
        DUE.is("state(0)", 5, x.state(0));
        DUE.no("DONE, finish(0)", x.finish(0));
        DUE.is("state(0)", 5, x.state(0));
    }

    private static void itsCallerRuns() {
        DUE.part("promise 13: DONE, and its caller, if it has one, RUNNING");
        BarrierDispatch x = new BarrierDispatch(1);
        x.submit(0, false, -1);
        x.begin();
        x.call(0, 1, false);
        x.begin();
        x.call(1, 2, false);
        DUE.no("a WAITING block, finish(1)", x.finish(1));
        x.begin();
        DUE.no("a WAITING block, finish(0)", x.finish(0));
        DUE.yes("finish(2)", x.finish(2));
        DUE.is("the caller, state(1)", 3, x.state(1));
        DUE.is("the caller's caller, state(0)", 4, x.state(0));
        DUE.yes("finish(1)", x.finish(1));
        DUE.is("state(0)", 3, x.state(0));
        DUE.yes("finish(0)", x.finish(0));
        DUE.is("state(0)", 5, x.state(0));
    }

    private static void noSuchBlock() {
        DUE.part("promise 13: false when there is no such block");
        for (int ticket : Edges.NEVER_TICKETS) {
            NEW.no("finish(" + ticket + ")", x -> x.finish(ticket));
            MIXED.no("finish(" + ticket + ")", x -> x.finish(ticket));
            FULL.no("finish(" + ticket + ")", x -> x.finish(ticket));
        }
        NEW.no("finish(0)", x -> x.finish(0));
        MIXED.no("one beyond the last, finish(13)", x -> x.finish(Mixed.BLOCKS));
    }

    private static void notRunning() {
        DUE.part("promise 13: false when it is not RUNNING");
        for (int ticket = 0; ticket < Mixed.BLOCKS; ticket++) {
            int finished = ticket;
            if (finished != Mixed.RUNNING) {
                MIXED.no("finish(" + finished + ")", x -> x.finish(finished));
            }
        }
    }

    private static void lastTicket() {
        DUE.part("promise 13: the last ticket");
        BarrierDispatch x = new BarrierDispatch(1);
        Edges.submitBlocks(x, 0, 159);
        x.submit(2, false, -1);
        DUE.is("begin()", 159, x.begin());
        DUE.no("finish(160)", x.finish(160));
        DUE.no("finish(158)", x.finish(158));
        DUE.yes("finish(159)", x.finish(159));
        DUE.is("state(159)", 5, x.state(159));
    }

    private static void freesWhatItUsed() {
        DUE.part("promise 13: a DONE block is not live");
        BarrierDispatch x = new BarrierDispatch(1);
        x.queue(0, 1);
        x.queue(3, 1);
        x.submit(4, true, -1);
        x.submit(4, true, -1);
        x.begin();
        DUE.is("begin()", BarrierDispatch.IDLE, x.begin());
        x.finish(0);
        for (int q = 0; q <= 4; q++) {
            DUE.is("through(" + q + ")", 0, x.through(q));
        }
        DUE.is("the worker, the widths and the barrier are free, begin()", 1, x.begin());
        x.call(1, 2, false);
        x.begin();
        x.finish(2);
        x.submit(2, false, -1);
        DUE.is("a called block used no worker, begin()", BarrierDispatch.IDLE, x.begin());
        x.finish(1);
        DUE.is("begin()", 3, x.begin());
    }

    private static void theLastMemberFreesTheHeld() {
        DUE.part("promise 13: the count has become 0 because a member became DONE");
        BarrierDispatch x = new BarrierDispatch(8);
        x.submit(0, false, 1);
        x.submit(0, false, 1);
        x.submit(0, false, 2);
        x.whenDone(1, 0);
        for (int i = 0; i < 3; i++) {
            x.begin();
        }
        x.finish(2);
        DUE.is("another group's member, state(3)", 0, x.state(3));
        x.finish(1);
        DUE.is("from 2 to 1, state(3)", 0, x.state(3));
        x.finish(0);
        DUE.is("from 1 to 0, state(3)", 2, x.state(3));
        DUE.is("count(1)", 0, x.count(1));
    }
}
