/** Promise 16, state: its edges, sentence by sentence. */
public final class Promise16Test {
    private static final Due DUE = new Due();
    private static final NoChange NEW = new NoChange(DUE, 2, x -> { });
    private static final NoChange MIXED = new NoChange(DUE, Mixed.WORKERS, Mixed::set);
    private static final NoChange FULL = new NoChange(DUE, Mixed.WORKERS, Mixed::setFull);

    public static void main(String[] args) {
        everyState();
        eightMoreWhenCancelled();
        noSuchBlock();
        lastTicket();
        DUE.end();
    }

    private static void everyState() {
        DUE.part("promise 16: the state of a block as a number");
        stateIs(Mixed.HELD, 0);
        stateIs(Mixed.DELAYED, 1);
        stateIs(Mixed.DELAYED_FOREVER, 1);
        stateIs(Mixed.QUEUED, 2);
        stateIs(Mixed.BARRIER, 2);
        stateIs(Mixed.CALLED, 2);
        stateIs(Mixed.RUNNING, 3);
        stateIs(Mixed.WAITING, 4);
        stateIs(Mixed.DONE, 5);
    }

    private static void eightMoreWhenCancelled() {
        DUE.part("promise 16: and 8 more when it is cancelled");
        stateIs(Mixed.HELD_CANCELLED, 8);
        stateIs(Mixed.DELAYED_CANCELLED, 9);
        stateIs(Mixed.QUEUED_CANCELLED, 10);
        stateIs(Mixed.SKIPPED, 14);
    }

    private static void stateIs(int ticket, int due) {
        MIXED.is("state(" + ticket + ")", due, x -> x.state(ticket));
    }

    private static void noSuchBlock() {
        DUE.part("promise 16: NOBLOCK when there is no such block");
        for (int ticket : Edges.NEVER_TICKETS) {
            NEW.is("state(" + ticket + ")", BarrierDispatch.NOBLOCK, x -> x.state(ticket));
            MIXED.is("state(" + ticket + ")", BarrierDispatch.NOBLOCK, x -> x.state(ticket));
            FULL.is("state(" + ticket + ")", BarrierDispatch.NOBLOCK, x -> x.state(ticket));
        }
        NEW.is("state(0)", BarrierDispatch.NOBLOCK, x -> x.state(0));
        MIXED.is("one beyond the last, state(13)", BarrierDispatch.NOBLOCK, x -> x.state(Mixed.BLOCKS));
    }

    private static void lastTicket() {
        DUE.part("promise 16: the first, the last and the next ticket");
        BarrierDispatch x = new BarrierDispatch(1);
        for (int ticket = 0; ticket < 160; ticket++) {
            DUE.is("before, state(" + ticket + ")", BarrierDispatch.NOBLOCK, x.state(ticket));
            x.submit(0, false, -1);
            DUE.is("after, state(" + ticket + ")", 2, x.state(ticket));
        }
        DUE.is("state(160)", BarrierDispatch.NOBLOCK, x.state(160));
    }
}
