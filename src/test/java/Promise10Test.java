/** Promise 10, cancel: its edges, sentence by sentence. */
public final class Promise10Test {
    private static final Due DUE = new Due();
    private static final NoChange NEW = new NoChange(DUE, 2, x -> { });
    private static final NoChange MIXED = new NoChange(DUE, Mixed.WORKERS, Mixed::set);
    private static final NoChange FULL = new NoChange(DUE, Mixed.WORKERS, Mixed::setFull);

    public static void main(String[] args) {
        becomesCancelled();
        stateStays();
        noSuchBlock();
        anotherState();
        cancelledAlready();
        firstAndLastTicket();
        DUE.end();
    }

    private static void becomesCancelled() {
        DUE.part("promise 10: a block that is HELD, DELAYED or QUEUED becomes cancelled");
        int[][] marked = {{Mixed.HELD, 8}, {Mixed.DELAYED, 9}, {Mixed.DELAYED_FOREVER, 9}, {Mixed.QUEUED, 10},
            {Mixed.CALLED, 10}, {Mixed.BARRIER, 10}};
        for (int[] pair : marked) {
            BarrierDispatch x = new BarrierDispatch(Mixed.WORKERS);
            Mixed.set(x);
            DUE.yes("cancel(" + pair[0] + ")", x.cancel(pair[0]));
            DUE.is("state(" + pair[0] + ")", pair[1], x.state(pair[0]));
            DUE.no("again, cancel(" + pair[0] + ")", x.cancel(pair[0]));
            DUE.is("state(" + pair[0] + ")", pair[1], x.state(pair[0]));
        }
    }

    private static void stateStays() {
        DUE.part("promise 10: its state stays, and it goes on as the state says");
        BarrierDispatch x = new BarrierDispatch(1);
        x.enter(0);
        x.whenDone(0, 0);
        x.after(0, 2);
        x.submit(0, false, 1);
        for (int ticket = 0; ticket < 3; ticket++) {
            x.cancel(ticket);
        }
        DUE.is("count(1)", 1, x.count(1));
        DUE.is("queued(0)", 1, x.queued(0));
        DUE.is("advance(1)", 0, x.advance(1));
        DUE.is("advance(1)", 1, x.advance(1));
        DUE.is("state(1)", 10, x.state(1));
        x.leave(0);
        DUE.is("state(0)", 10, x.state(0));
        DUE.is("queued(0)", 3, x.queued(0));
        for (int ticket = 0; ticket < 3; ticket++) {
            DUE.no("still cancelled, cancel(" + ticket + ")", x.cancel(ticket));
        }
    }

    private static void noSuchBlock() {
        DUE.part("promise 10: false when there is no such block");
        for (int ticket : Edges.NEVER_TICKETS) {
            NEW.no("cancel(" + ticket + ")", x -> x.cancel(ticket));
            MIXED.no("cancel(" + ticket + ")", x -> x.cancel(ticket));
            FULL.no("cancel(" + ticket + ")", x -> x.cancel(ticket));
        }
        NEW.no("cancel(0)", x -> x.cancel(0));
        MIXED.no("one beyond the last, cancel(13)", x -> x.cancel(Mixed.BLOCKS));
    }

    private static void anotherState() {
        DUE.part("promise 10: false when it is in another state");
        MIXED.no("RUNNING", x -> x.cancel(Mixed.RUNNING));
        MIXED.no("WAITING", x -> x.cancel(Mixed.WAITING));
        MIXED.no("DONE", x -> x.cancel(Mixed.DONE));
        MIXED.no("SKIPPED (and cancelled already)", x -> x.cancel(Mixed.SKIPPED));
    }

    private static void cancelledAlready() {
        DUE.part("promise 10: false when it is cancelled already");
        MIXED.no("HELD", x -> x.cancel(Mixed.HELD_CANCELLED));
        MIXED.no("DELAYED", x -> x.cancel(Mixed.DELAYED_CANCELLED));
        MIXED.no("QUEUED", x -> x.cancel(Mixed.QUEUED_CANCELLED));
    }

    private static void firstAndLastTicket() {
        DUE.part("promise 10: the first and the last ticket");
        BarrierDispatch x = new BarrierDispatch(1);
        x.submit(0, false, -1);
        DUE.no("with one block, cancel(1)", x.cancel(1));
        DUE.yes("with one block, cancel(0)", x.cancel(0));
        Edges.submitBlocks(x, 1, 160);
        DUE.yes("with 160 blocks, cancel(159)", x.cancel(159));
        DUE.is("state(159)", 10, x.state(159));
        DUE.is("state(158)", 2, x.state(158));
        DUE.no("with 160 blocks, cancel(160)", x.cancel(160));
    }
}
