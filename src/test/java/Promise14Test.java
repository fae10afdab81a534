/** Promise 14, advance: its edges, sentence by sentence. */
public final class Promise14Test {
    private static final long FOREVER = BarrierDispatch.FOREVER;
    private static final Due DUE = new Due();
    private static final NoChange NEW = new NoChange(DUE, 2, x -> { });
    private static final NoChange MIXED = new NoChange(DUE, Mixed.WORKERS, Mixed::set);

    public static void main(String[] args) {
        movesBySpan();
        stopsOneBeforeForever();
        badWhenNegative();
        zeroMovesNothing();
        deadlineNotAboveTheClock();
        foreverNeverComes();
        inTheOrderOfDeadlines();
        equalDeadlinesInTheOrderOfTickets();
        youngerThanAllBefore();
        answersHowMany();
        cancelledOnesCome();
        DUE.end();
    }

    private static void movesBySpan() {
        DUE.part("promise 14: moves the clock on by span");
        long[] spans = {1, 1, 2, 0, Integer.MAX_VALUE, 1, 4294967296L, FOREVER / 2};
        BarrierDispatch x = new BarrierDispatch(1);
        long clock = 0;
        for (long span : spans) {
            DUE.is("advance(" + span + ")", 0, x.advance(span));
            clock += span;
            DUE.is("now()", clock, x.now());
        }
    }

    private static void stopsOneBeforeForever() {
        DUE.part("promise 14: to FOREVER - 1 when it would come beyond that");
        stopsAt(0, FOREVER - 2, FOREVER - 2);
        stopsAt(0, FOREVER - 1, FOREVER - 1);
        stopsAt(0, FOREVER, FOREVER - 1);
        stopsAt(1, FOREVER - 3, FOREVER - 2);
        stopsAt(1, FOREVER - 2, FOREVER - 1);
        stopsAt(1, FOREVER - 1, FOREVER - 1);
        stopsAt(1, FOREVER, FOREVER - 1);
        stopsAt(1000, FOREVER - 1001, FOREVER - 1);
        stopsAt(1000, FOREVER - 1000, FOREVER - 1);
        stopsAt(FOREVER / 2, FOREVER / 2, FOREVER - 1);
        stopsAt(FOREVER / 2, FOREVER / 2 + 1, FOREVER - 1);
        stopsAt(FOREVER / 2, FOREVER / 2 + 2, FOREVER - 1);
        stopsAt(FOREVER - 2, 0, FOREVER - 2);
        stopsAt(FOREVER - 2, 1, FOREVER - 1);
        stopsAt(FOREVER - 2, 2, FOREVER - 1);
        stopsAt(FOREVER - 2, FOREVER, FOREVER - 1);
        stopsAt(FOREVER - 1, 0, FOREVER - 1);
        stopsAt(FOREVER - 1, 1, FOREVER - 1);
        stopsAt(FOREVER - 1, FOREVER - 1, FOREVER - 1);
        stopsAt(FOREVER - 1, FOREVER, FOREVER - 1);
    }

    private static void stopsAt(long clock, long span, long due) {
        BarrierDispatch x = new BarrierDispatch(1);
        x.advance(clock);
        DUE.is("now()", clock, x.now());
        DUE.is("at " + clock + ", advance(" + span + ")", 0, x.advance(span));
        DUE.is("at " + clock + ", advance(" + span + "), now()", due, x.now());
    }

    private static void badWhenNegative() {
        DUE.part("promise 14: BAD when span is negative");
        NoChange end = new NoChange(DUE, 2, x -> {
            x.advance(FOREVER);
            x.after(0, 1);
        });
        long[] spans = {Long.MIN_VALUE, Long.MIN_VALUE + 1, -4294967296L, -1000, -2, -1};
        for (long span : spans) {
            NEW.is("advance(" + span + ")", BarrierDispatch.BAD, x -> x.advance(span));
            MIXED.is("advance(" + span + ")", BarrierDispatch.BAD, x -> x.advance(span));
            end.is("at the end, advance(" + span + ")", BarrierDispatch.BAD, x -> x.advance(span));
        }
    }

    private static void zeroMovesNothing() {
        DUE.part("promise 14: a span of 0");
        NEW.is("advance(0)", 0, x -> x.advance(0));
        MIXED.is("advance(0)", 0, x -> x.advance(0));
    }

    private static void deadlineNotAboveTheClock() {
        DUE.part("promise 14: all DELAYED blocks whose deadline is not above the clock");
        long[] clocks = {2, 1000, 4294967296L, FOREVER - 2};
        for (long clock : clocks) {
            BarrierDispatch x = new BarrierDispatch(1);
            x.after(0, clock - 1);
            x.after(0, clock);
            x.after(0, clock + 1);
            DUE.is("advance(" + clock + ")", 2, x.advance(clock));
            DUE.is("one below, state(0)", 2, x.state(0));
            DUE.is("at it, state(1)", 2, x.state(1));
            DUE.is("one above, state(2)", 1, x.state(2));
            DUE.is("advance(1)", 1, x.advance(1));
            DUE.is("state(2)", 2, x.state(2));
            DUE.is("none is left, advance(FOREVER)", 0, x.advance(FOREVER));
        }
    }

    private static void foreverNeverComes() {
        DUE.part("promise 14: the greatest clock and the deadlines around it");
        BarrierDispatch x = new BarrierDispatch(1);
        x.after(0, FOREVER - 2);
        x.after(0, FOREVER - 1);
        x.after(0, FOREVER);
        DUE.is("advance(FOREVER - 2)", 1, x.advance(FOREVER - 2));
        DUE.is("advance(1)", 1, x.advance(1));
        DUE.is("advance(1)", 0, x.advance(1));
        DUE.is("advance(FOREVER)", 0, x.advance(FOREVER));
        DUE.is("state(2)", 1, x.state(2));
        BarrierDispatch y = new BarrierDispatch(1);
        y.after(0, FOREVER);
        y.after(0, FOREVER - 1);
        DUE.is("in one step, advance(FOREVER)", 1, y.advance(FOREVER));
        DUE.is("state(0)", 1, y.state(0));
        DUE.is("state(1)", 2, y.state(1));
    }

    private static void inTheOrderOfDeadlines() {
        DUE.part("promise 14: in the order of their deadlines");
        BarrierDispatch x = new BarrierDispatch(8);
        x.queue(0, 8);
        x.after(0, 5);
        x.after(3, 4);
        x.after(0, 3);
        x.after(3, 2);
        x.after(0, 1);
        DUE.is("advance(5)", 5, x.advance(5));
        DUE.begins(x, 4, 3, 2, 1, 0);
        BarrierDispatch y = new BarrierDispatch(8);
        y.after(0, FOREVER - 1);
        y.after(0, FOREVER - 2);
        y.after(0, 1);
        DUE.is("advance(FOREVER)", 3, y.advance(FOREVER));
        DUE.begins(y, 2, 1, 0);
    }

    private static void equalDeadlinesInTheOrderOfTickets() {
        DUE.part("promise 14: those with equal deadlines in the order of their tickets");
        BarrierDispatch x = new BarrierDispatch(8);
        x.queue(0, 8);
        x.after(3, 4);
        x.after(0, 3);
        x.advance(1);
        x.after(3, 3);
        x.after(0, 2);
        x.advance(1);
        x.after(0, 2);
        x.after(3, 1);
        DUE.is("advance(2)", 6, x.advance(2));
        DUE.begins(x, 1, 3, 5, 0, 2, 4);
    }

    private static void youngerThanAllBefore() {
        DUE.part("promise 14: what becomes QUEUED comes behind all that were QUEUED before");
        BarrierDispatch x = new BarrierDispatch(8);
        x.after(0, 2);
        x.after(0, 1);
        x.submit(0, false, -1);
        x.advance(1);
        x.submit(0, false, -1);
        x.advance(1);
        DUE.begins(x, 2, 1, 3, 0);
    }

    private static void answersHowMany() {
        DUE.part("promise 14: answers how many");
        BarrierDispatch x = new BarrierDispatch(1);
        DUE.is("no block, advance(1)", 0, x.advance(1));
        for (int ticket = 0; ticket < 160; ticket++) {
            x.after(ticket % 3, 1 + ticket / 80);
        }
        DUE.is("advance(1)", 80, x.advance(1));
        DUE.is("advance(1)", 80, x.advance(1));
        DUE.is("advance(1)", 0, x.advance(1));
        BarrierDispatch y = new BarrierDispatch(1);
        for (int ticket = 0; ticket < 160; ticket++) {
            y.after(0, 160 - ticket);
        }
        DUE.is("a full object, advance(FOREVER)", 160, y.advance(FOREVER));
        DUE.is("queued(0)", 160, y.queued(0));
        DUE.is("the earliest deadline, begin()", 159, y.begin());
    }

    private static void cancelledOnesCome() {
        DUE.part("promise 14: a cancelled block is DELAYED too");
        BarrierDispatch x = new BarrierDispatch(1);
        x.after(0, 1);
        x.cancel(0);
        DUE.is("advance(1)", 1, x.advance(1));
        DUE.is("state(0)", 10, x.state(0));
        DUE.is("queued(0)", 1, x.queued(0));
    }
}
