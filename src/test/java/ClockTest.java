/** Promises 5 after, 14 advance and 15 now. */
public final class ClockTest {
    private static final long FOREVER = BarrierDispatch.FOREVER;
    private static final Due DUE = new Due();

    public static void main(String[] args) {
        afterAtOnce();
        afterDelayed();
        afterTheLongest();
        afterRefusals();
        advanceInOrder();
        advanceToTheEnd();
        advanceRefusals();
        nowTells();
        DUE.end();
    }

    private static void afterAtOnce() {
        DUE.part("promise 5, at once");
        BarrierDispatch x = new BarrierDispatch(8);
        long[] none = {0, -1, -FOREVER, Long.MIN_VALUE};
        for (int ticket = 0; ticket < none.length; ticket++) {
            DUE.is("after(0, " + none[ticket] + ")", ticket, x.after(0, none[ticket]));
            DUE.is("state", 2, x.state(ticket));
        }
        DUE.is("queued(0)", 4, x.queued(0));
        for (int group = 0; group < 4; group++) {
            DUE.is("it is no member", 0, x.count(group));
        }
        x.advance(3);
        x.after(1, -3);
        DUE.is("state(4)", 2, x.state(4));
    }

    private static void afterDelayed() {
        DUE.part("promise 5, for later");
        BarrierDispatch x = new BarrierDispatch(8);
        x.queue(0, 2);
        x.advance(100);
        DUE.is("after(3, 1)", 0, x.after(3, 1));
        DUE.is("after(3, 50)", 1, x.after(3, 50));
        DUE.is("state(0)", 1, x.state(0));
        DUE.is("queued(3)", 0, x.queued(3));
        DUE.is("ready()", 0, x.ready());
        DUE.is("advance(0)", 0, x.advance(0));
        DUE.is("advance(1)", 1, x.advance(1));
        DUE.is("state(0)", 2, x.state(0));
        DUE.is("advance(48)", 0, x.advance(48));
        DUE.is("state(1)", 1, x.state(1));
        DUE.is("advance(1)", 1, x.advance(1));
        DUE.is("begin()", 0, x.begin());
        DUE.is("it is no barrier", 1, x.begin());
    }

    private static void afterTheLongest() {
        DUE.part("promise 5, the longest delays");
        BarrierDispatch x = new BarrierDispatch(8);
        x.after(0, FOREVER);
        x.after(0, FOREVER - 1);
        x.advance(10);
        x.after(0, FOREVER);
        x.after(0, FOREVER - 10);
        x.after(0, FOREVER - 11);
        x.after(0, FOREVER - 12);
        DUE.is("advance to two before the end", 0, x.advance(FOREVER - 13));
        DUE.is("now()", FOREVER - 3, x.now());
        DUE.is("advance(1)", 1, x.advance(1));
        DUE.is("state(5)", 2, x.state(5));
        DUE.is("advance(FOREVER)", 2, x.advance(FOREVER));
        DUE.is("state(0)", 1, x.state(0));
        DUE.is("state(1)", 2, x.state(1));
        DUE.is("state(2)", 1, x.state(2));
        DUE.is("state(3)", 1, x.state(3));
        DUE.is("state(4)", 2, x.state(4));
        DUE.is("after(0, 1)", 6, x.after(0, 1));
        DUE.is("state(6)", 1, x.state(6));
        DUE.is("after(0, FOREVER)", 7, x.after(0, FOREVER));
        DUE.is("after(0, 0)", 8, x.after(0, 0));
        DUE.is("state(8)", 2, x.state(8));
        DUE.is("advance(FOREVER)", 0, x.advance(FOREVER));
        DUE.is("state(6)", 1, x.state(6));
        DUE.is("state(7)", 1, x.state(7));
    }

    private static void afterRefusals() {
        DUE.part("promise 5, refusals");
        BarrierDispatch x = new BarrierDispatch(8);
        int[] wrong = {3, 12, -1, Integer.MIN_VALUE, Integer.MAX_VALUE};
        for (int q : wrong) {
            DUE.is("after(" + q + ", 0)", BarrierDispatch.NOQUEUE, x.after(q, 0));
            DUE.is("after(" + q + ", 5)", BarrierDispatch.NOQUEUE, x.after(q, 5));
        }
        for (int ticket = 0; ticket < 160; ticket++) {
            DUE.is("after", ticket, x.after(0, ticket));
        }
        DUE.is("one more", BarrierDispatch.FULL, x.after(0, 0));
        DUE.is("one more", BarrierDispatch.FULL, x.after(0, 5));
        DUE.is("NOQUEUE comes before FULL", BarrierDispatch.NOQUEUE, x.after(3, 5));
        DUE.is("all at once", 159, x.advance(159));
        DUE.is("queued(0)", 160, x.queued(0));
    }

    private static void advanceInOrder() {
        DUE.part("promise 14, the order");
        BarrierDispatch x = new BarrierDispatch(8);
        x.after(0, 30);
        x.after(0, 10);
        x.after(0, 20);
        x.advance(5);
        x.after(0, 5);
        x.after(0, 25);
        x.after(0, 1);
        x.after(0, 26);
        x.submit(0, false, -1);
        DUE.is("advance(25)", 6, x.advance(25));
        DUE.is("state(6)", 1, x.state(6));
        int[] order = {7, 5, 1, 3, 2, 0, 4};
        for (int ticket : order) {
            DUE.is("begin()", ticket, x.begin());
        }
        DUE.is("begin()", BarrierDispatch.IDLE, x.begin());
        DUE.is("advance(1)", 1, x.advance(1));
        DUE.is("begin()", 6, x.begin());
        DUE.is("advance(1000)", 0, x.advance(1000));
    }

    private static void advanceToTheEnd() {
        DUE.part("promise 14, the end of the clock");
        long[][] steps = {{0, 0}, {1, 1}, {FOREVER - 3, FOREVER - 2}, {1, FOREVER - 1}, {0, FOREVER - 1},
            {1, FOREVER - 1}, {FOREVER, FOREVER - 1}};
        BarrierDispatch x = new BarrierDispatch(8);
        for (long[] step : steps) {
            DUE.is("advance", 0, x.advance(step[0]));
            DUE.is("now()", step[1], x.now());
        }
        BarrierDispatch y = new BarrierDispatch(8);
        y.advance(FOREVER - 1);
        DUE.is("now()", FOREVER - 1, y.now());
        BarrierDispatch z = new BarrierDispatch(8);
        z.advance(2);
        z.advance(FOREVER - 2);
        DUE.is("now()", FOREVER - 1, z.now());
    }

    private static void advanceRefusals() {
        DUE.part("promise 14, refusals");
        BarrierDispatch x = new BarrierDispatch(8);
        x.advance(7);
        x.after(0, 1);
        long[] wrong = {-1, -7, -8, -FOREVER, Long.MIN_VALUE};
        for (long span : wrong) {
            DUE.is("advance(" + span + ")", BarrierDispatch.BAD, x.advance(span));
            DUE.is("now()", 7, x.now());
        }
        DUE.is("state(0)", 1, x.state(0));
    }

    private static void nowTells() {
        DUE.part("promise 15");
        BarrierDispatch x = new BarrierDispatch(8);
        DUE.is("now()", 0, x.now());
        long clock = 0;
        for (long span = 1; span < 2000000000000L; span *= 3) {
            x.advance(span);
            clock += span;
            DUE.is("now()", clock, x.now());
        }
        x.submit(0, false, -1);
        x.begin();
        x.finish(0);
        DUE.is("nothing else moves it", clock, x.now());
    }
}
