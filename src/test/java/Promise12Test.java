/** Promise 12, begin: its edges, sentence by sentence (what may start: MayStartTest). */
public final class Promise12Test {
    private static final Due DUE = new Due();

    public static void main(String[] args) {
        idleWithNoBlock();
        idleWithBlocksThatMayNotStart();
        becomesRunning();
        highestQuality();
        qualityOfTheChainAsItIs();
        oldestOfTheSameQuality();
        oldestIsNotTheLeastTicket();
        skipsACancelledBlock();
        callerOfASkippedBlockGoesOn();
        choosesAgainFromTheBeginning();
        skipsTakeNoWorkerAndLeaveNoTrace();
        skipsStayWhenItIsIdleAtLast();
        skipsAFullObject();
        beginsAFullObject();
        DUE.end();
    }

    private static void idleWithNoBlock() {
        DUE.part("promise 12: IDLE when no block may start (there is none)");
        NoChange none = new NoChange(DUE, 1, x -> { });
        none.is("begin()", BarrierDispatch.IDLE, x -> x.begin());
    }

    private static void idleWithBlocksThatMayNotStart() {
        DUE.part("promise 12: IDLE when no block may start (and none was skipped: nothing has changed)");
        NoChange inUse = new NoChange(DUE, 1, x -> {
            x.submit(0, false, 0);
            x.begin();
            Edges.submitBlocks(x, 1, 20);
            x.whenDone(0, 1);
            x.after(2, 4);
        });
        inUse.is("the worker is in use, begin()", BarrierDispatch.IDLE, x -> x.begin());
        NoChange held = new NoChange(DUE, 4, x -> {
            x.queue(0, 2);
            x.hold(3, true);
            x.submit(3, false, 0);
            x.submit(3, true, 0);
            x.cancel(0);
            x.whenDone(0, 3);
        });
        held.is("the queue is held, begin()", BarrierDispatch.IDLE, x -> x.begin());
        NoChange ended = new NoChange(DUE, 4, x -> {
            x.submit(0, false, 0);
            x.begin();
            x.finish(0);
            x.after(0, 1);
            x.enter(1);
            x.whenDone(1, 0);
        });
        ended.is("DONE, DELAYED and HELD ones, begin()", BarrierDispatch.IDLE, x -> x.begin());
    }

    private static void becomesRunning() {
        DUE.part("promise 12: it becomes RUNNING, and its ticket is answered");
        BarrierDispatch x = new BarrierDispatch(2);
        x.queue(0, 1);
        x.submit(3, true, -1);
        x.submit(1, false, -1);
        DUE.is("begin()", 1, x.begin());
        DUE.is("state(1)", 3, x.state(1));
        DUE.is("state(0)", 2, x.state(0));
        DUE.is("queued(1)", 0, x.queued(1));
        DUE.is("begin()", 0, x.begin());
        DUE.is("state(0)", 3, x.state(0));
        DUE.is("through(3)", 1, x.through(3));
        DUE.is("through(0)", 1, x.through(0));
    }

    private static void highestQuality() {
        DUE.part("promise 12: the one whose home has the highest quality");
        int[][] orders = {{0, 1, 2}, {0, 2, 1}, {1, 0, 2}, {1, 2, 0}, {2, 0, 1}, {2, 1, 0}};
        for (int[] order : orders) {
            BarrierDispatch x = new BarrierDispatch(8);
            int[] ticketOf = new int[3];
            for (int root : order) {
                ticketOf[root] = x.submit(root, false, -1);
            }
            DUE.begins(x, ticketOf[2], ticketOf[1], ticketOf[0]);
        }
        BarrierDispatch x = new BarrierDispatch(8);
        x.queue(2, 1);
        for (int target = 3; target < 11; target++) {
            x.queue(target, 1);
        }
        x.submit(0, false, -1);
        x.submit(1, false, -1);
        x.submit(11, false, -1);
        DUE.begins(x, 2, 1, 0);
    }

    private static void qualityOfTheChainAsItIs() {
        DUE.part("promise 12: the quality is that of the chain as it is now");
        BarrierDispatch x = new BarrierDispatch(8);
        x.queue(0, 8);
        x.queue(3, 8);
        x.queue(1, 8);
        x.submit(5, false, -1);
        x.submit(4, false, -1);
        x.retarget(3, 2);
        DUE.begins(x, 1, 0);
        x.finish(1);
        x.finish(0);
        x.submit(5, false, -1);
        x.submit(4, false, -1);
        x.retarget(3, 0);
        DUE.begins(x, 2, 3);
    }

    private static void oldestOfTheSameQuality() {
        DUE.part("promise 12: among those the oldest");
        BarrierDispatch x = new BarrierDispatch(8);
        x.queue(1, 8);
        x.queue(3, 8);
        x.submit(4, false, -1);
        x.submit(1, false, -1);
        x.submit(3, false, -1);
        x.submit(1, false, -1);
        x.submit(4, false, -1);
        DUE.begins(x, 0, 1, 2, 3, 4);
    }

    private static void oldestIsNotTheLeastTicket() {
        DUE.part("promise 12: older is what became QUEUED before");
        BarrierDispatch x = new BarrierDispatch(8);
        x.queue(0, 8);
        x.enter(0);
        x.whenDone(0, 0);
        x.after(3, 2);
        x.after(0, 1);
        x.submit(3, false, -1);
        x.advance(2);
        x.submit(0, false, -1);
        x.leave(0);
        DUE.begins(x, 3, 2, 1, 4, 0);
    }

    private static void skipsACancelledBlock() {
        DUE.part("promise 12: when it is cancelled it becomes SKIPPED");
        BarrierDispatch x = new BarrierDispatch(8);
        x.submit(2, false, 0);
        x.submit(2, false, 0);
        x.submit(0, false, 0);
        x.cancel(0);
        DUE.is("before, state(0)", 10, x.state(0));
        DUE.is("begin()", 1, x.begin());
        DUE.is("state(0)", 14, x.state(0));
        DUE.is("count(0)", 2, x.count(0));
        x.cancel(2);
        DUE.is("begin()", BarrierDispatch.IDLE, x.begin());
        DUE.is("state(2)", 14, x.state(2));
        DUE.is("count(0)", 1, x.count(0));
    }

    private static void callerOfASkippedBlockGoesOn() {
        DUE.part("promise 12: SKIPPED, and its caller, if it has one, RUNNING");
        BarrierDispatch x = new BarrierDispatch(1);
        x.submit(0, false, -1);
        x.begin();
        x.call(0, 1, false);
        x.begin();
        x.call(1, 2, false);
        x.cancel(2);
        DUE.is("before, state(1)", 4, x.state(1));
        DUE.is("begin()", BarrierDispatch.IDLE, x.begin());
        DUE.is("state(2)", 14, x.state(2));
        DUE.is("the caller, state(1)", 3, x.state(1));
        DUE.is("the caller's caller, state(0)", 4, x.state(0));
        DUE.is("it can call again", 3, x.call(1, 2, false));
        DUE.is("begin()", 3, x.begin());
    }

    private static void choosesAgainFromTheBeginning() {
        DUE.part("promise 12: the choice is made again from the beginning, as things are then");
        BarrierDispatch x = new BarrierDispatch(8);
        x.submit(0, false, 0);
        x.submit(0, false, -1);
        x.whenDone(0, 2);
        x.cancel(0);
        DUE.begins(x, 2, 1);

        BarrierDispatch y = new BarrierDispatch(8);
        y.queue(2, 8);
        y.queue(3, 8);
        y.submit(4, false, -1);
        y.submit(3, true, -1);
        y.submit(1, false, -1);
        y.cancel(1);
        DUE.is("the closed queue, ready()", 2, y.ready());
        DUE.begins(y, 0, 2);
        DUE.is("state(1)", 14, y.state(1));

        BarrierDispatch z = new BarrierDispatch(8);
        z.submit(1, false, 0);
        z.whenDone(0, 2);
        z.submit(2, false, 1);
        z.whenDone(1, 2);
        z.cancel(0);
        z.cancel(1);
        z.cancel(2);
        DUE.begins(z, 3);
        DUE.is("skipped in a row, state(1)", 14, z.state(1));
    }

    private static void skipsTakeNoWorkerAndLeaveNoTrace() {
        DUE.part("promise 12: a SKIPPED block was never live");
        BarrierDispatch x = new BarrierDispatch(1);
        x.queue(0, 1);
        x.submit(3, true, -1);
        x.submit(3, false, -1);
        x.submit(0, false, -1);
        x.cancel(0);
        x.cancel(1);
        DUE.is("begin()", 2, x.begin());
        DUE.is("through(3)", 0, x.through(3));
        DUE.is("peak(3)", 0, x.peak(3));
        DUE.is("peak(0)", 1, x.peak(0));
        DUE.is("retarget(3, 1)", 0, x.retarget(3, 1));
        x.finish(2);
        x.submit(3, false, -1);
        DUE.is("begin()", 3, x.begin());
    }

    private static void skipsStayWhenItIsIdleAtLast() {
        DUE.part("promise 12: IDLE when at last no block may start: skipped ones stay SKIPPED");
        BarrierDispatch x = new BarrierDispatch(1);
        x.submit(0, false, -1);
        x.begin();
        x.submit(1, false, 2);
        x.whenDone(2, 1);
        x.submit(2, false, -1);
        x.cancel(1);
        DUE.is("ready()", 1, x.ready());
        DUE.is("begin()", BarrierDispatch.IDLE, x.begin());
        DUE.is("state(1)", 14, x.state(1));
        DUE.is("the HELD one came, state(2)", 2, x.state(2));
        DUE.is("no worker was free, state(3)", 2, x.state(3));
        DUE.is("count(2)", 0, x.count(2));
        DUE.is("ready()", 0, x.ready());
        DUE.is("begin()", BarrierDispatch.IDLE, x.begin());
        DUE.is("state(1)", 14, x.state(1));
    }

    private static void skipsAFullObject() {
        DUE.part("promise 12: 160 blocks are skipped in one call");
        BarrierDispatch x = new BarrierDispatch(1);
        Edges.submitBlocks(x, 0, 160);
        for (int ticket = 0; ticket < 160; ticket++) {
            x.cancel(ticket);
        }
        DUE.is("ready()", 1, x.ready());
        DUE.is("begin()", BarrierDispatch.IDLE, x.begin());
        DUE.is("queued(1)", 0, x.queued(1));
        DUE.is("state(0)", 14, x.state(0));
        DUE.is("state(158)", 14, x.state(158));
        DUE.is("state(159)", 14, x.state(159));
    }

    private static void beginsAFullObject() {
        DUE.part("promise 12: the last of 160 blocks begins");
        BarrierDispatch x = new BarrierDispatch(1);
        Edges.submitBlocks(x, 0, 160);
        for (int ticket = 0; ticket < 160; ticket++) {
            DUE.is("begin()", ticket, x.begin());
            x.finish(ticket);
        }
        DUE.is("begin()", BarrierDispatch.IDLE, x.begin());
        BarrierDispatch y = new BarrierDispatch(1);
        Edges.submitBlocks(y, 0, 160);
        for (int ticket = 0; ticket < 159; ticket++) {
            y.cancel(ticket);
        }
        DUE.is("159 are skipped, begin()", 159, y.begin());
        DUE.is("state(158)", 14, y.state(158));
        DUE.is("state(159)", 3, y.state(159));
    }
}
