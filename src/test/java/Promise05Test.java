/** Promise 5, after: its edges, sentence by sentence. */
public final class Promise05Test {
    private static final long FOREVER = BarrierDispatch.FOREVER;
    private static final long[] CLOCKS = {0, 1, FOREVER - 1};
    private static final Due DUE = new Due();
    private static final NoChange NEW = new NoChange(DUE, 2, x -> { });
    private static final NoChange MIXED = new NoChange(DUE, Mixed.WORKERS, Mixed::set);
    private static final NoChange FULL = new NoChange(DUE, Mixed.WORKERS, Mixed::setFull);

    public static void main(String[] args) {
        queuedWhenDelayIsZeroOrLess();
        delayedWhenDelayIsOneOrMore();
        deadlineIsClockPlusDelay();
        foreverWhenTheSumWouldBe();
        foreverAtTheEndOfTheClock();
        noBarrierNoMember();
        noQueue();
        fullWith160Blocks();
        noQueueBeforeFull();
        DUE.end();
    }

    private static void queuedWhenDelayIsZeroOrLess() {
        DUE.part("promise 5: when delay is 0 or less, it is QUEUED at once");
        long[] delays = {Long.MIN_VALUE, Long.MIN_VALUE + 1, -1000, -2, -1, 0};
        for (long clock : CLOCKS) {
            BarrierDispatch x = acceptedAt(clock, delays, 2);
            DUE.is("queued(0)", delays.length, x.queued(0));
            DUE.is("advance(FOREVER)", 0, x.advance(FOREVER));
        }
    }

    private static void delayedWhenDelayIsOneOrMore() {
        DUE.part("promise 5: otherwise it is DELAYED");
        long[] delays = {1, 2, 1000, FOREVER - 2, FOREVER - 1, FOREVER};
        for (long clock : CLOCKS) {
            BarrierDispatch x = acceptedAt(clock, delays, 1);
            DUE.is("queued(0)", 0, x.queued(0));
            DUE.is("ready()", 0, x.ready());
            DUE.is("advance(0)", 0, x.advance(0));
        }
    }

    private static BarrierDispatch acceptedAt(long clock, long[] delays, int state) {
        BarrierDispatch x = new BarrierDispatch(1);
        x.advance(clock);
        for (int ticket = 0; ticket < delays.length; ticket++) {
            String name = "at " + clock + ", after(0, " + delays[ticket] + ")";
            DUE.is(name, ticket, x.after(0, delays[ticket]));
            DUE.is(name + ", its state", state, x.state(ticket));
        }
        return x;
    }

    private static void deadlineIsClockPlusDelay() {
        DUE.part("promise 5: its deadline is the clock plus delay");
        comesAt(0, 1, 1);
        comesAt(0, 2, 2);
        comesAt(1, 1, 2);
        comesAt(7, 5, 12);
        comesAt(0, Integer.MAX_VALUE, Integer.MAX_VALUE);
        comesAt(1, Integer.MAX_VALUE, 2147483648L);
        comesAt(4294967296L, 4294967296L, 8589934592L);
        comesAt(0, FOREVER - 1, FOREVER - 1);
        comesAt(1, FOREVER - 2, FOREVER - 1);
        comesAt(FOREVER - 2, 1, FOREVER - 1);
        comesAt(FOREVER - 3, 1, FOREVER - 2);
        comesAt(FOREVER / 2, FOREVER / 2, FOREVER - 1);
    }

    /** Looks one below the deadline, and at it. */
    private static void comesAt(long clock, long delay, long deadline) {
        BarrierDispatch x = new BarrierDispatch(1);
        x.advance(clock);
        String name = "at " + clock + ", after(0, " + delay + ")";
        DUE.is(name, 0, x.after(0, delay));
        DUE.is(name + ", one below the deadline", 0, x.advance(deadline - 1 - clock));
        DUE.is(name + ", one below the deadline, its state", 1, x.state(0));
        DUE.is(name + ", at the deadline", 1, x.advance(1));
        DUE.is(name + ", at the deadline, its state", 2, x.state(0));
        DUE.is(name + ", now()", deadline, x.now());
    }

    private static void foreverWhenTheSumWouldBe() {
        DUE.part("promise 5: FOREVER when that sum would be FOREVER or more");
        neverComes(0, FOREVER);
        neverComes(1, FOREVER - 1);
        neverComes(1, FOREVER);
        neverComes(2, FOREVER - 2);
        neverComes(2, FOREVER - 1);
        neverComes(1000, FOREVER - 1000);
        neverComes(1000, FOREVER - 999);
        neverComes(FOREVER / 2, FOREVER / 2 + 1);
        neverComes(FOREVER / 2, FOREVER);
        neverComes(FOREVER - 2, 2);
        neverComes(FOREVER - 2, 3);
        neverComes(FOREVER - 2, FOREVER);
    }

    private static void foreverAtTheEndOfTheClock() {
        DUE.part("promise 5: at the clock's greatest value every delay ends at FOREVER");
        neverComes(FOREVER - 1, 1);
        neverComes(FOREVER - 1, 2);
        neverComes(FOREVER - 1, FOREVER - 1);
        neverComes(FOREVER - 1, FOREVER);
    }

    private static void neverComes(long clock, long delay) {
        BarrierDispatch x = new BarrierDispatch(1);
        x.advance(clock);
        String name = "at " + clock + ", after(0, " + delay + ")";
        DUE.is(name, 0, x.after(0, delay));
        DUE.is(name + ", its state", 1, x.state(0));
        DUE.is(name + ", advance(0)", 0, x.advance(0));
        DUE.is(name + ", advance(1)", 0, x.advance(1));
        DUE.is(name + ", advance(FOREVER)", 0, x.advance(FOREVER));
        DUE.is(name + ", advance(FOREVER) again", 0, x.advance(FOREVER));
        DUE.is(name + ", its state at the end", 1, x.state(0));
        DUE.is(name + ", now()", FOREVER - 1, x.now());
        DUE.yes(name + ", cancel(0)", x.cancel(0));
        DUE.is(name + ", its state when cancelled", 9, x.state(0));
    }

    private static void noBarrierNoMember() {
        DUE.part("promise 5: no barrier, no member");
        BarrierDispatch x = new BarrierDispatch(8);
        x.queue(0, 2);
        x.after(3, 0);
        x.after(3, 1);
        x.advance(1);
        DUE.is("begin()", 0, x.begin());
        DUE.is("beside the other, begin()", 1, x.begin());
        for (int group = 0; group <= 3; group++) {
            DUE.is("count(" + group + ")", 0, x.count(group));
        }
    }

    private static void noQueue() {
        DUE.part("promise 5: NOQUEUE when there is no queue q");
        long[] delays = {Long.MIN_VALUE, 0, 1, FOREVER};
        for (int q : Edges.NEVER_QUEUES) {
            for (long delay : delays) {
                String name = "after(" + q + ", " + delay + ")";
                NEW.is(name, BarrierDispatch.NOQUEUE, x -> x.after(q, delay));
                MIXED.is(name, BarrierDispatch.NOQUEUE, x -> x.after(q, delay));
            }
        }
        NEW.is("after(3, 1)", BarrierDispatch.NOQUEUE, x -> x.after(3, 1));
        MIXED.is("after(8, 1)", BarrierDispatch.NOQUEUE, x -> x.after(Mixed.QUEUES, 1));
        BarrierDispatch x = new BarrierDispatch(1);
        Edges.makeQueues(x, 3, Edges.MOST_QUEUES);
        for (int q = 0; q <= 11; q++) {
            DUE.is("after(" + q + ", 1)", q, x.after(q, 1));
        }
        DUE.is("after(12, 1)", BarrierDispatch.NOQUEUE, x.after(12, 1));
    }

    private static void fullWith160Blocks() {
        DUE.part("promise 5: FULL when 160 blocks were accepted");
        long[] delays = {Long.MIN_VALUE, -1, 0, 1, FOREVER - 1, FOREVER};
        for (long delay : delays) {
            BarrierDispatch x = new BarrierDispatch(1);
            Edges.submitBlocks(x, 0, 159);
            DUE.is("with 159 blocks, after(0, " + delay + ")", 159, x.after(0, delay));
            DUE.is("with 160 blocks, after(0, " + delay + ")", BarrierDispatch.FULL, x.after(0, delay));
            DUE.is("state(160)", BarrierDispatch.NOBLOCK, x.state(160));
            FULL.is("after(7, " + delay + ")", BarrierDispatch.FULL, y -> y.after(7, delay));
        }
    }

    private static void noQueueBeforeFull() {
        DUE.part("promise 5: NOQUEUE is named before FULL");
        for (int q : Edges.NEVER_QUEUES) {
            FULL.is("after(" + q + ", 0)", BarrierDispatch.NOQUEUE, x -> x.after(q, 0));
            FULL.is("after(" + q + ", 1)", BarrierDispatch.NOQUEUE, x -> x.after(q, 1));
        }
        FULL.is("after(8, 1)", BarrierDispatch.NOQUEUE, x -> x.after(Mixed.QUEUES, 1));
    }
}
