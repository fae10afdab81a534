/** Promises 12 begin and 21 ready: which block may start, and which of them is taken. */
public final class StartTest {
    private static final Due DUE = new Due();

    public static void main(String[] args) {
        quality();
        age();
        ageOfTheHome();
        width();
        barrierWaits();
        barrierIsAlone();
        closedQueue();
        closedOnlyByTheOldest();
        waitingBarrierStillGuards();
        workers();
        skipsInARow();
        skipOpensTheWay();
        skipMovesToABetterOne();
        idleKeepsTheSkipped();
        DUE.end();
    }

    private static void quality() {
        DUE.part("promise 12, quality");
        BarrierDispatch x = new BarrierDispatch(8);
        x.queue(2, 2);
        x.queue(3, 2);
        x.submit(0, false, -1);
        x.submit(1, false, -1);
        x.submit(0, false, -1);
        x.submit(4, false, -1);
        x.submit(2, false, -1);
        x.submit(1, false, -1);
        DUE.is("ready()", 4, x.ready());
        int[] order = {3, 4, 1, 5, 0, 2};
        for (int ticket : order) {
            DUE.is("begin()", ticket, x.begin());
        }
        DUE.is("begin()", BarrierDispatch.IDLE, x.begin());
    }

    private static void age() {
        DUE.part("promise 12, age");
        BarrierDispatch x = new BarrierDispatch(8);
        x.queue(0, 4);
        x.queue(0, 4);
        x.after(0, 9);
        x.after(4, 3);
        x.submit(4, false, -1);
        x.submit(3, false, -1);
        x.advance(9);
        x.submit(0, false, -1);
        DUE.is("ready()", 3, x.ready());
        int[] order = {2, 3, 1, 0, 4};
        for (int ticket : order) {
            DUE.is("begin(), the age is no ticket", ticket, x.begin());
        }
    }

    private static void ageOfTheHome() {
        DUE.part("promise 21, only the first of a line");
        BarrierDispatch x = new BarrierDispatch(8);
        x.queue(0, 8);
        for (int i = 0; i < 5; i++) {
            x.submit(3, false, -1);
            x.submit(1, false, -1);
        }
        DUE.is("ready()", 2, x.ready());
        DUE.is("ready() changes nothing", 2, x.ready());
        DUE.is("queued(3)", 5, x.queued(3));
        x.hold(3, true);
        DUE.is("ready()", 1, x.ready());
    }

    private static void width() {
        DUE.part("promise 12, width over the chain");
        BarrierDispatch x = new BarrierDispatch(8);
        x.queue(0, 2);
        x.queue(3, 8);
        x.queue(3, 1);
        x.submit(5, false, -1);
        x.submit(5, false, -1);
        x.submit(4, false, -1);
        x.submit(4, false, -1);
        DUE.is("begin()", 0, x.begin());
        DUE.is("5 is full, 4 is not", 2, x.begin());
        DUE.is("3 is full", BarrierDispatch.IDLE, x.begin());
        DUE.is("ready()", 0, x.ready());
        x.call(2, 0, false);
        DUE.is("a block beside", 4, x.begin());
        DUE.is("a WAITING block takes room too", BarrierDispatch.IDLE, x.begin());
        x.finish(0);
        DUE.is("ready()", 2, x.ready());
        DUE.is("begin()", 1, x.begin());
        DUE.is("ready()", 0, x.ready());
    }

    private static void barrierWaits() {
        DUE.part("promise 12, a barrier waits for its home to be empty");
        BarrierDispatch x = new BarrierDispatch(8);
        x.queue(0, 8);
        x.queue(3, 8);
        x.submit(4, false, -1);
        x.begin();
        x.submit(3, true, -1);
        DUE.is("a block from below passes through", BarrierDispatch.IDLE, x.begin());
        x.finish(0);
        DUE.is("begin()", 1, x.begin());
        x.finish(1);
        x.submit(3, false, -1);
        x.begin();
        x.submit(4, true, -1);
        DUE.is("a block of its home's target is not in the way", 3, x.begin());
    }

    private static void barrierIsAlone() {
        DUE.part("promise 12, a live barrier");
        BarrierDispatch x = new BarrierDispatch(8);
        x.queue(0, 8);
        x.queue(3, 8);
        x.queue(4, 8);
        x.submit(4, true, -1);
        x.begin();
        x.submit(4, false, -1);
        x.submit(5, false, -1);
        x.submit(3, false, -1);
        x.submit(0, false, -1);
        DUE.is("ready(), above it and at the root", 2, x.ready());
        DUE.is("begin()", 3, x.begin());
        DUE.is("begin()", 4, x.begin());
        DUE.is("begin()", BarrierDispatch.IDLE, x.begin());
        x.finish(0);
        DUE.is("ready()", 2, x.ready());
        DUE.is("begin()", 1, x.begin());
        DUE.is("begin()", 2, x.begin());
    }

    private static void closedQueue() {
        DUE.part("promise 12, a closed queue");
        BarrierDispatch x = new BarrierDispatch(8);
        x.queue(1, 8);
        x.queue(3, 8);
        x.queue(4, 8);
        x.submit(5, false, -1);
        x.submit(3, false, -1);
        x.begin();
        x.begin();
        x.submit(5, false, -1);
        x.submit(3, true, -1);
        DUE.is("closed for an older block from below too", BarrierDispatch.IDLE, x.begin());
        x.finish(0);
        x.finish(1);
        DUE.is("ready()", 1, x.ready());
        DUE.is("begin()", 3, x.begin());
        x.finish(3);
        DUE.is("begin()", 2, x.begin());
        x.submit(3, true, -1);
        x.hold(3, true);
        x.retarget(5, 2);
        x.submit(4, true, -1);
        x.submit(4, false, -1);
        DUE.is("held and closed", 0, x.ready());
        DUE.is("the chain of 5 is in use", BarrierDispatch.BUSY, x.retarget(5, 2));
        x.finish(2);
        x.retarget(4, 2);
        DUE.is("a closed home is open to its own barrier", 5, x.begin());
    }

    private static void closedOnlyByTheOldest() {
        DUE.part("promise 12, closed by the oldest alone");
        BarrierDispatch x = new BarrierDispatch(8);
        x.queue(1, 2);
        x.queue(3, 2);
        x.submit(3, false, -1);
        x.submit(3, true, -1);
        x.submit(4, false, -1);
        x.submit(4, false, -1);
        DUE.is("ready()", 2, x.ready());
        DUE.is("begin()", 0, x.begin());
        DUE.is("now the barrier is the oldest", BarrierDispatch.IDLE, x.begin());
        x.finish(0);
        DUE.is("begin()", 1, x.begin());
        x.finish(1);
        DUE.is("begin()", 2, x.begin());
        DUE.is("begin()", 3, x.begin());

        BarrierDispatch y = new BarrierDispatch(8);
        y.queue(1, 2);
        y.queue(3, 2);
        y.enter(0);
        y.after(3, 1);
        y.whenDone(0, 3);
        y.submit(4, true, -1);
        y.submit(4, true, -1);
        DUE.is("ready()", 1, y.ready());
        DUE.is("begin()", 2, y.begin());
        DUE.is("a barrier behind a barrier", BarrierDispatch.IDLE, y.begin());
        y.advance(1);
        DUE.is("begin()", 0, y.begin());
    }

    private static void waitingBarrierStillGuards() {
        DUE.part("promise 12, a barrier that waits is live");
        BarrierDispatch x = new BarrierDispatch(8);
        x.queue(0, 8);
        x.submit(3, true, -1);
        x.begin();
        x.call(0, 1, false);
        x.submit(3, false, -1);
        DUE.is("begin()", 1, x.begin());
        DUE.is("begin()", BarrierDispatch.IDLE, x.begin());
        x.finish(1);
        DUE.is("begin()", BarrierDispatch.IDLE, x.begin());
        x.finish(0);
        DUE.is("begin()", 2, x.begin());
    }

    private static void workers() {
        DUE.part("promise 12, workers");
        BarrierDispatch x = new BarrierDispatch(2);
        x.submit(0, false, -1);
        x.submit(0, false, -1);
        x.submit(2, false, -1);
        DUE.is("begin()", 2, x.begin());
        DUE.is("begin()", 0, x.begin());
        DUE.is("begin()", BarrierDispatch.IDLE, x.begin());
        DUE.is("ready()", 0, x.ready());
        x.call(2, 1, false);
        DUE.is("the called one needs none", 1, x.ready());
        DUE.is("begin()", 3, x.begin());
        DUE.is("a WAITING block keeps its worker", BarrierDispatch.IDLE, x.begin());
        x.finish(3);
        DUE.is("begin()", BarrierDispatch.IDLE, x.begin());
        x.finish(0);
        DUE.is("begin()", 1, x.begin());
        DUE.is("begin()", BarrierDispatch.IDLE, x.begin());
    }

    private static void skipsInARow() {
        DUE.part("promise 12, many skips");
        BarrierDispatch x = new BarrierDispatch(1);
        for (int ticket = 0; ticket < 160; ticket++) {
            x.submit(ticket % 3, false, 0);
        }
        for (int ticket = 0; ticket < 159; ticket++) {
            x.cancel(ticket);
        }
        DUE.is("begin()", 159, x.begin());
        DUE.is("queued(0)", 0, x.queued(0));
        DUE.is("count(0)", 1, x.count(0));
        for (int ticket = 0; ticket < 159; ticket++) {
            DUE.is("state of a skipped block", 14, x.state(ticket));
        }
    }

    private static void skipOpensTheWay() {
        DUE.part("promise 12, a skip opens the way");
        BarrierDispatch x = new BarrierDispatch(8);
        x.queue(0, 8);
        x.queue(3, 8);
        x.submit(4, false, -1);
        x.submit(3, true, -1);
        x.cancel(1);
        DUE.is("ready()", 1, x.ready());
        DUE.is("begin()", 0, x.begin());
        DUE.is("state(1)", 14, x.state(1));
        x.submit(0, false, -1);
        x.begin();
        x.call(2, 1, false);
        x.cancel(3);
        DUE.is("begin()", BarrierDispatch.IDLE, x.begin());
        DUE.is("the caller of a skipped block", 3, x.state(2));
    }

    private static void skipMovesToABetterOne() {
        DUE.part("promise 12, the choice from the beginning");
        BarrierDispatch x = new BarrierDispatch(8);
        x.submit(0, false, 0);
        x.submit(0, false, -1);
        x.whenDone(0, 2);
        x.whenDone(0, 1);
        x.cancel(0);
        x.cancel(2);
        DUE.is("0 is skipped, 2 comes and is skipped, 3 is before 1", 3, x.begin());
        DUE.is("state(0)", 14, x.state(0));
        DUE.is("state(2)", 14, x.state(2));
        DUE.is("begin()", 1, x.begin());
    }

    private static void idleKeepsTheSkipped() {
        DUE.part("promise 12, IDLE keeps the skipped");
        BarrierDispatch x = new BarrierDispatch(1);
        x.submit(0, false, -1);
        x.begin();
        x.submit(1, false, 1);
        x.submit(1, false, -1);
        x.whenDone(1, 1);
        x.cancel(1);
        DUE.is("begin()", BarrierDispatch.IDLE, x.begin());
        DUE.is("state(1)", 14, x.state(1));
        DUE.is("state(2)", 2, x.state(2));
        DUE.is("state(3)", 2, x.state(3));
        DUE.is("queued(1)", 2, x.queued(1));
        DUE.is("peak(1)", 0, x.peak(1));
    }
}
