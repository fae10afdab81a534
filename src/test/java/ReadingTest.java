/** Promises 16 state, 17 queued, 18 through and 19 peak. */
public final class ReadingTest {
    private static final int[] NO_QUEUES = {5, 12, -1, Integer.MIN_VALUE, Integer.MAX_VALUE};
    private static final Due DUE = new Due();

    public static void main(String[] args) {
        states();
        queuedByHome();
        throughTheChain();
        peakStays();
        DUE.end();
    }

    private static void states() {
        DUE.part("promise 16");
        BarrierDispatch x = new BarrierDispatch(8);
        x.enter(0);
        x.submit(0, false, -1);
        x.begin();
        x.finish(0);
        x.submit(0, false, -1);
        x.begin();
        x.call(1, 0, false);
        x.begin();
        x.after(0, 1);
        x.whenDone(0, 0);
        x.submit(0, false, -1);
        x.submit(0, false, -1);
        int[] plain = {5, 4, 3, 1, 0, 2, 2};
        for (int ticket = 0; ticket < plain.length; ticket++) {
            DUE.is("state(" + ticket + ")", plain[ticket], x.state(ticket));
        }
        for (int ticket = 3; ticket < 6; ticket++) {
            x.cancel(ticket);
        }
        int[] marked = {5, 4, 3, 9, 8, 10, 2};
        for (int ticket = 0; ticket < marked.length; ticket++) {
            DUE.is("state(" + ticket + ")", marked[ticket], x.state(ticket));
        }
        x.begin();
        DUE.is("state(5)", 14, x.state(5));
        DUE.is("state(6)", 3, x.state(6));
        int[] none = {7, 159, 160, -1, Integer.MIN_VALUE, Integer.MAX_VALUE};
        for (int ticket : none) {
            DUE.is("state(" + ticket + ")", BarrierDispatch.NOBLOCK, x.state(ticket));
        }
    }

    private static void queuedByHome() {
        DUE.part("promise 17");
        BarrierDispatch x = new BarrierDispatch(8);
        x.queue(0, 2);
        x.queue(3, 2);
        x.enter(0);
        x.submit(4, false, -1);
        x.submit(4, true, -1);
        x.submit(3, false, -1);
        x.after(4, 5);
        x.whenDone(0, 4);
        DUE.is("queued(4)", 2, x.queued(4));
        DUE.is("queued(3)", 1, x.queued(3));
        DUE.is("queued(0)", 0, x.queued(0));
        x.begin();
        DUE.is("RUNNING is not QUEUED", 1, x.queued(4));
        x.advance(5);
        x.leave(0);
        DUE.is("queued(4)", 3, x.queued(4));
        x.cancel(1);
        DUE.is("a cancelled block is QUEUED", 3, x.queued(4));
        x.finish(0);
        x.begin();
        DUE.is("a SKIPPED one is not", 2, x.queued(4));
        x.begin();
        x.finish(2);
        x.begin();
        x.begin();
        DUE.is("queued(4)", 0, x.queued(4));
        DUE.is("queued(3)", 0, x.queued(3));
        x.submit(4, false, -1);
        DUE.is("a line that was empty", 1, x.queued(4));
        for (int q : NO_QUEUES) {
            DUE.is("queued(" + q + ")", BarrierDispatch.NOQUEUE, x.queued(q));
        }
    }

    private static void throughTheChain() {
        DUE.part("promise 18");
        BarrierDispatch x = new BarrierDispatch(8);
        x.queue(0, 8);
        x.queue(3, 8);
        x.submit(4, false, -1);
        x.submit(3, false, -1);
        x.submit(0, false, -1);
        x.submit(1, false, -1);
        DUE.is("QUEUED blocks do not count", 0, x.through(0));
        for (int i = 0; i < 4; i++) {
            x.begin();
        }
        int[] all = {3, 1, 0, 2, 1};
        for (int q = 0; q < all.length; q++) {
            DUE.is("through(" + q + ")", all[q], x.through(q));
        }
        x.call(0, 4, false);
        DUE.is("a WAITING block counts", 1, x.through(4));
        x.begin();
        DUE.is("and the called one too", 2, x.through(4));
        DUE.is("through(0)", 4, x.through(0));
        x.finish(4);
        x.finish(0);
        int[] rest = {2, 1, 0, 1, 0};
        for (int q = 0; q < rest.length; q++) {
            DUE.is("through(" + q + ")", rest[q], x.through(q));
        }
        for (int q : NO_QUEUES) {
            DUE.is("through(" + q + ")", BarrierDispatch.NOQUEUE, x.through(q));
        }
    }

    private static void peakStays() {
        DUE.part("promise 19");
        BarrierDispatch x = new BarrierDispatch(8);
        x.queue(0, 8);
        x.queue(3, 8);
        for (int i = 0; i < 3; i++) {
            x.submit(4, false, -1);
        }
        x.submit(3, false, -1);
        DUE.is("QUEUED blocks do not count", 0, x.peak(4));
        for (int i = 0; i < 4; i++) {
            x.begin();
            DUE.is("it goes up", i + 1, x.peak(3));
        }
        for (int i = 0; i < 4; i++) {
            x.finish(i);
            DUE.is("it stays", 4, x.peak(3));
        }
        int[] most = {4, 0, 0, 4, 3};
        for (int q = 0; q < most.length; q++) {
            DUE.is("peak(" + q + ")", most[q], x.peak(q));
        }
        x.submit(4, false, -1);
        x.begin();
        DUE.is("a lower number does not change it", 3, x.peak(4));
        for (int q : NO_QUEUES) {
            DUE.is("peak(" + q + ")", BarrierDispatch.NOQUEUE, x.peak(q));
        }
    }
}
