/** The sentences of the Terms that hold for many promises (those on what may start: MayStartTest). */
public final class TermsTest {
    private static final long FOREVER = BarrierDispatch.FOREVER;
    private static final Due DUE = new Due();

    public static void main(String[] args) {
        atMost12Queues();
        rootsHaveNoHoldCount();
        ticketsInTheOrderOfAcceptance();
        atMost160BlocksInAll();
        noBarrierAtARootBySubmit();
        noBarrierAtARootByCall();
        statesFromFirstToLast();
        lastInTheLineHoweverItBecameQueued();
        behindAllQueuesHoweverItBecameQueued();
        countZeroByLeave();
        countZeroByDone();
        countZeroBySkipped();
        countZeroOnlyTogether();
        heldInTheOrderOfTickets();
        heldOfThatGroupAlone();
        countZeroManyTimes();
        clockAndForever();
        refusalsInARowChangeNothing();
        DUE.end();
    }

    private static void atMost12Queues() {
        DUE.part("terms: queues have numbers 0, 1, 2, ..; at most 12 in all");
        BarrierDispatch x = new BarrierDispatch(1);
        for (int queues = 3; queues < 12; queues++) {
            DUE.is(queues + " queues, queue(2, 8)", queues, x.queue(2, 8));
        }
        for (int i = 0; i < 3; i++) {
            DUE.is("12 queues, queue(2, 8)", BarrierDispatch.FULL, x.queue(2, 8));
        }
        for (int q = -1; q <= 12; q++) {
            DUE.is("queued(" + q + ")", q >= 0 && q <= 11 ? 0 : BarrierDispatch.NOQUEUE, x.queued(q));
        }
    }

    private static void rootsHaveNoHoldCount() {
        DUE.part("terms: roots have neither a limit of width nor a hold count");
        BarrierDispatch x = new BarrierDispatch(8);
        for (int root = 0; root <= 2; root++) {
            DUE.is("hold(" + root + ", true)", BarrierDispatch.NOQUEUE, x.hold(root, true));
            DUE.is("hold(" + root + ", false)", BarrierDispatch.NOQUEUE, x.hold(root, false));
        }
        x.submit(0, false, -1);
        x.begin();
        for (int live = 1; live <= 12; live++) {
            x.call(live - 1, 0, false);
            DUE.is(live + " live blocks, begin()", live, x.begin());
        }
    }

    private static void ticketsInTheOrderOfAcceptance() {
        DUE.part("terms: tickets 0, 1, 2, .. in the order in which they were accepted");
        BarrierDispatch x = new BarrierDispatch(2);
        DUE.is("submit", 0, x.submit(0, false, 0));
        DUE.is("a refused submit", BarrierDispatch.NOQUEUE, x.submit(3, false, 0));
        DUE.is("after, DELAYED", 1, x.after(0, 5));
        DUE.is("a refused after", BarrierDispatch.NOQUEUE, x.after(3, 5));
        DUE.is("after, QUEUED", 2, x.after(0, 0));
        DUE.is("whenDone, HELD", 3, x.whenDone(0, 0));
        DUE.is("a refused whenDone", BarrierDispatch.NOGROUP, x.whenDone(4, 0));
        DUE.is("whenDone, QUEUED", 4, x.whenDone(1, 0));
        x.begin();
        DUE.is("call", 5, x.call(0, 1, false));
        DUE.is("a refused call", BarrierDispatch.NOBLOCK, x.call(0, 1, false));
        DUE.is("submit", 6, x.submit(2, true, -1));
    }

    private static void atMost160BlocksInAll() {
        DUE.part("terms: at most 160 are accepted in all, by whatever call");
        BarrierDispatch x = new BarrierDispatch(2);
        x.submit(0, false, -1);
        x.begin();
        x.enter(0);
        for (int ticket = 1; ticket < 157; ticket += 3) {
            DUE.is("submit", ticket, x.submit(1, false, 1));
            DUE.is("after", ticket + 1, x.after(1, 1));
            DUE.is("whenDone", ticket + 2, x.whenDone(0, 1));
        }
        DUE.is("after", 157, x.after(1, 1));
        DUE.is("whenDone", 158, x.whenDone(0, 1));
        DUE.is("call", 159, x.call(0, 2, false));
        DUE.is("begin()", 159, x.begin());
        DUE.is("submit", BarrierDispatch.FULL, x.submit(1, false, 1));
        DUE.is("after", BarrierDispatch.FULL, x.after(1, 1));
        DUE.is("whenDone", BarrierDispatch.FULL, x.whenDone(0, 1));
        DUE.is("call", BarrierDispatch.FULL, x.call(159, 2, false));
        DUE.is("state(159)", 3, x.state(159));
    }

    private static void noBarrierAtARootBySubmit() {
        DUE.part("terms: a block whose home is a root is never a barrier (submit)");
        for (int root = 0; root <= 2; root++) {
            BarrierDispatch x = new BarrierDispatch(8);
            x.queue(root, 8);
            x.submit(root, false, -1);
            x.begin();
            x.submit(root, true, -1);
            x.submit(3, false, -1);
            DUE.is("the root is not closed, ready()", 2, x.ready());
            DUE.is("it does not wait for others, begin()", 1, x.begin());
            x.submit(root, true, -1);
            DUE.is("others do not wait for it, begin()", 2, x.begin());
            DUE.is("nor does another one, begin()", 3, x.begin());
            DUE.is("through the root", 4, x.through(root));
        }
    }

    private static void noBarrierAtARootByCall() {
        DUE.part("terms: a block whose home is a root is never a barrier (call)");
        for (int root = 0; root <= 2; root++) {
            BarrierDispatch x = new BarrierDispatch(8);
            x.queue(root, 8);
            x.submit(root, false, -1);
            x.begin();
            DUE.is("call", 1, x.call(0, root, true));
            x.submit(3, true, -1);
            DUE.is("the root is not closed, ready()", 2, x.ready());
            DUE.is("it does not wait for its caller, begin()", 1, x.begin());
            DUE.is("others do not wait for it, begin()", 2, x.begin());
            DUE.is("through the root", 3, x.through(root));
        }
    }

    private static void statesFromFirstToLast() {
        DUE.part("terms: HELD (0), DELAYED (1), QUEUED (2), RUNNING (3), WAITING (4), DONE (5) or SKIPPED (6)");
        BarrierDispatch x = new BarrierDispatch(1);
        x.enter(0);
        x.whenDone(0, 0);
        DUE.is("state(0)", 0, x.state(0));
        x.after(2, 1);
        DUE.is("state(1)", 1, x.state(1));
        x.leave(0);
        DUE.is("state(0)", 2, x.state(0));
        x.begin();
        DUE.is("state(0)", 3, x.state(0));
        x.call(0, 1, false);
        DUE.is("state(0)", 4, x.state(0));
        x.cancel(2);
        x.begin();
        DUE.is("cancelled and SKIPPED, state(2)", 6 + 8, x.state(2));
        DUE.is("state(0)", 3, x.state(0));
        x.finish(0);
        DUE.is("state(0)", 5, x.state(0));
        x.advance(1);
        DUE.is("state(1)", 2, x.state(1));
    }

    /** Eight blocks become QUEUED, each in another way, by turns with home a and home b. */
    private static BarrierDispatch queuedInEveryWay(int a, int b) {
        BarrierDispatch x = new BarrierDispatch(2);
        x.queue(0, 8);
        x.enter(0);
        x.submit(2, false, 3);
        x.submit(2, false, -1);
        x.begin();
        x.begin();
        x.submit(2, false, 2);
        x.whenDone(0, a);
        x.whenDone(3, b);
        x.whenDone(2, a);
        x.after(b, 5);
        DUE.is("submit", 7, x.submit(a, false, -1));
        DUE.is("advance brings 6", 1, x.advance(5));
        x.cancel(2);
        DUE.is("a skip brings 5", BarrierDispatch.IDLE, x.begin());
        DUE.is("after", 8, x.after(b, 0));
        DUE.yes("leave brings 3", x.leave(0));
        DUE.is("whenDone", 9, x.whenDone(1, a));
        DUE.yes("finish brings 4", x.finish(0));
        DUE.is("call", 10, x.call(1, b, false));
        return x;
    }

    private static void beginsInThatOrder(BarrierDispatch x) {
        int[] order = {7, 6, 5, 8, 3, 9, 4, 10};
        for (int ticket : order) {
            DUE.is("begin()", ticket, x.begin());
            x.finish(ticket);
        }
        DUE.is("begin() at last", BarrierDispatch.IDLE, x.begin());
    }

    private static void lastInTheLineHoweverItBecameQueued() {
        DUE.part("terms: whenever a block becomes QUEUED it is the last in the line of its home");
        for (int home = 0; home <= 3; home += 3) {
            BarrierDispatch x = queuedInEveryWay(home, home);
            DUE.is("queued(" + home + ")", 8, x.queued(home));
            DUE.is("only the first of the line, ready()", 1, x.ready());
            beginsInThatOrder(x);
        }
    }

    private static void behindAllQueuesHoweverItBecameQueued() {
        DUE.part("terms: and it comes behind all blocks of all queues that became QUEUED before it");
        for (int home = 0; home <= 3; home += 3) {
            BarrierDispatch x = queuedInEveryWay(home, 3 - home);
            DUE.is("queued(0)", 4, x.queued(0));
            DUE.is("queued(3)", 4, x.queued(3));
            DUE.is("the first of both lines, ready()", 2, x.ready());
            beginsInThatOrder(x);
        }
    }

    private static void countZeroByLeave() {
        DUE.part("terms: the count of a group has become 0 by leave");
        BarrierDispatch x = new BarrierDispatch(1);
        x.enter(1);
        x.enter(1);
        x.whenDone(1, 0);
        x.leave(1);
        DUE.is("the count is 1, state(0)", 0, x.state(0));
        x.leave(1);
        DUE.is("the count is 0, state(0)", 2, x.state(0));
    }

    private static void countZeroByDone() {
        DUE.part("terms: or because a member became DONE");
        BarrierDispatch x = new BarrierDispatch(2);
        x.submit(0, false, 1);
        x.submit(0, false, 1);
        x.whenDone(1, 0);
        x.begin();
        x.begin();
        x.finish(1);
        DUE.is("the count is 1, state(2)", 0, x.state(2));
        x.finish(0);
        DUE.is("the count is 0, state(2)", 2, x.state(2));
    }

    private static void countZeroBySkipped() {
        DUE.part("terms: or SKIPPED");
        BarrierDispatch x = new BarrierDispatch(1);
        x.queue(0, 8);
        x.submit(2, false, -1);
        x.begin();
        x.submit(0, false, 1);
        x.submit(3, false, 1);
        x.whenDone(1, 0);
        x.cancel(1);
        DUE.is("cancelled, the count is 2", 2, x.count(1));
        x.begin();
        DUE.is("the count is 1, state(3)", 0, x.state(3));
        x.cancel(2);
        DUE.is("cancelled, the count is 1, state(3)", 0, x.state(3));
        x.begin();
        DUE.is("the count is 0, state(3)", 2, x.state(3));
    }

    private static void countZeroOnlyTogether() {
        DUE.part("terms: its count is its entered count and the number of its members");
        BarrierDispatch x = new BarrierDispatch(2);
        x.submit(0, false, 2);
        x.submit(0, false, 2);
        x.enter(2);
        x.whenDone(2, 1);
        x.begin();
        x.finish(0);
        DUE.is("entered, and one member is open, state(2)", 0, x.state(2));
        x.leave(2);
        DUE.is("one member is open, state(2)", 0, x.state(2));
        x.enter(2);
        x.cancel(1);
        x.begin();
        DUE.is("entered, and no member is open, state(2)", 0, x.state(2));
        DUE.is("count(2)", 1, x.count(2));
        x.leave(2);
        DUE.is("neither, state(2)", 2, x.state(2));
    }

    private static void heldInTheOrderOfTickets() {
        DUE.part("terms: all HELD blocks of the group become QUEUED, in the order of their tickets");
        BarrierDispatch x = new BarrierDispatch(8);
        x.queue(0, 8);
        x.queue(0, 8);
        x.enter(0);
        int[] homes = {4, 0, 3, 3, 0, 4};
        for (int home : homes) {
            x.whenDone(0, home);
        }
        x.cancel(2);
        x.submit(4, false, -1);
        x.leave(0);
        for (int ticket = 0; ticket < homes.length; ticket++) {
            DUE.is("state(" + ticket + ")", ticket == 2 ? 10 : 2, x.state(ticket));
        }
        DUE.begins(x, 6, 0, 1, 3, 4, 5);
    }

    private static void heldOfThatGroupAlone() {
        DUE.part("terms: HELD blocks of other groups stay HELD");
        for (int group = 0; group <= 3; group++) {
            BarrierDispatch x = new BarrierDispatch(8);
            for (int each = 0; each <= 3; each++) {
                x.enter(each);
                x.whenDone(each, 0);
            }
            x.leave(group);
            for (int each = 0; each <= 3; each++) {
                DUE.is("group " + group + " is empty, state(" + each + ")", each == group ? 2 : 0, x.state(each));
            }
        }
    }

    private static void countZeroManyTimes() {
        DUE.part("terms: whenever the count of a group has become 0");
        BarrierDispatch x = new BarrierDispatch(1);
        for (int round = 0; round < 10; round++) {
            x.submit(0, false, 3);
            x.whenDone(3, 2);
            DUE.is("HELD", 0, x.state(2 * round + 1));
            DUE.is("begin()", 2 * round, x.begin());
            x.finish(2 * round);
            DUE.is("QUEUED", 2, x.state(2 * round + 1));
            DUE.is("begin()", 2 * round + 1, x.begin());
            x.finish(2 * round + 1);
        }
    }

    private static void clockAndForever() {
        DUE.part("terms: a block with a deadline FOREVER stays DELAYED for ever");
        BarrierDispatch x = new BarrierDispatch(1);
        x.after(0, FOREVER - 1);
        x.after(0, FOREVER);
        DUE.is("advance(FOREVER)", 1, x.advance(FOREVER));
        x.after(0, 1);
        for (int i = 0; i < 10; i++) {
            DUE.is("advance(FOREVER)", 0, x.advance(FOREVER));
            DUE.is("now()", FOREVER - 1, x.now());
            DUE.is("state(1)", 1, x.state(1));
            DUE.is("state(2)", 1, x.state(2));
        }
    }

    private static void refusalsInARowChangeNothing() {
        DUE.part("terms: a call that answers a negative number, or false, changes nothing");
        new NoChange(DUE, Mixed.WORKERS, Mixed::set).is("all refusals in a row", 0, TermsTest::refusals);
    }

    /** How many calls that are to be refused were not. */
    private static long refusals(BarrierDispatch x) {
        int[] answers = {
            x.queue(8, 1), x.queue(0, 0), x.queue(0, 9), x.retarget(0, 1), x.retarget(3, 4), x.retarget(4, 1),
            x.submit(8, true, 0), x.submit(0, true, 4), x.after(8, 1), x.after(-1, 0), x.call(Mixed.DONE, 0, true),
            x.call(Mixed.RUNNING, 8, true), x.call(Mixed.RUNNING, 4, true), x.whenDone(4, 0), x.whenDone(2, 8),
            x.hold(0, true), x.hold(8, false), x.hold(7, false), x.advance(-1), x.advance(Long.MIN_VALUE),
            x.state(13), x.queued(8), x.through(8), x.peak(8), x.count(4),
        };
        boolean[] yes = {
            x.enter(4), x.enter(-1), x.leave(4), x.leave(0), x.cancel(Mixed.RUNNING), x.cancel(Mixed.WAITING),
            x.cancel(Mixed.HELD_CANCELLED), x.cancel(13), x.finish(Mixed.WAITING), x.finish(Mixed.QUEUED), x.finish(13),
        };
        long accepted = 0;
        for (int answer : answers) {
            accepted += answer < 0 ? 0 : 1;
        }
        for (boolean answer : yes) {
            accepted += answer ? 1 : 0;
        }
        return accepted;
    }
}
