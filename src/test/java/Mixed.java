/**
 * A scene in the midst of the work: queues on several levels, holds, entered groups, a moved clock and
 * a block in every state, cancelled or not. The constants are the tickets.
 */
final class Mixed {
    static final int WORKERS = 4;
    /** The queues are 0 .. 7: 4 on 3 on 0, 5 on 1, 7 on 6 on 2. */
    static final int QUEUES = 8;

    static final int DONE = 0;
    static final int SKIPPED = 1;
    static final int RUNNING = 2;
    static final int WAITING = 3;
    static final int CALLED = 4;
    static final int HELD = 5;
    static final int HELD_CANCELLED = 6;
    static final int DELAYED = 7;
    static final int DELAYED_CANCELLED = 8;
    static final int DELAYED_FOREVER = 9;
    static final int BARRIER = 10;
    static final int QUEUED_CANCELLED = 11;
    static final int QUEUED = 12;
    static final int BLOCKS = 13;

    private Mixed() {
    }

    static void set(BarrierDispatch x) {
        x.queue(0, 2);
        x.queue(3, 4);
        x.queue(1, 1);
        x.queue(2, 8);
        x.queue(6, 3);
        x.submit(1, false, 1);
        x.begin();
        x.finish(DONE);
        x.submit(1, false, 1);
        x.cancel(SKIPPED);
        x.begin();
        x.submit(4, false, 0);
        x.begin();
        x.submit(7, false, 1);
        x.begin();
        x.call(WAITING, 5, false);
        x.enter(2);
        x.enter(2);
        x.whenDone(2, 1);
        x.whenDone(2, 6);
        x.cancel(HELD_CANCELLED);
        x.after(0, 3);
        x.after(4, 3);
        x.cancel(DELAYED_CANCELLED);
        x.after(1, BarrierDispatch.FOREVER);
        x.submit(3, true, 0);
        x.submit(6, false, 3);
        x.cancel(QUEUED_CANCELLED);
        x.submit(2, false, -1);
        x.hold(6, true);
        x.hold(5, true);
        x.advance(1);
    }

    /** The same with as many blocks as an object takes. */
    static void setFull(BarrierDispatch x) {
        set(x);
        for (int ticket = BLOCKS; ticket < 160; ticket++) {
            x.submit(1, false, -1);
        }
    }
}
