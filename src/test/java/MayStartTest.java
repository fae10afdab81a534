/**
 * Promises 12 and 21: the seven conditions of 'A block MAY START' in the Terms, each at its edge while
 * the other six hold. Most scenes have a chain 5, 4, 3, 0, with 6 on 4 beside 5 and 7 on 5 below it.
 */
public final class MayStartTest {
    private static final int[] CHAIN = {5, 4, 3};
    private static final int[] WIDE = {8, 8, 8};
    private static final Due DUE = new Due();

    /** The kinds of blocks that a condition can be thought to spare. */
    private enum Kind {
        PLAIN(false, false, false), BARRIER(true, false, false), CALLED(false, true, false),
        CALLED_BARRIER(true, true, false), CANCELLED(false, false, true), CANCELLED_BARRIER(true, false, true),
        CANCELLED_CALLED(false, true, true), CANCELLED_CALLED_BARRIER(true, true, true);

        private final boolean barrier;
        private final boolean called;
        private final boolean cancelled;

        Kind(boolean barrier, boolean called, boolean cancelled) {
            this.barrier = barrier;
            this.called = called;
            this.cancelled = cancelled;
        }

        private int come(BarrierDispatch x) {
            int ticket = called ? x.call(runningAside(x), 5, barrier) : x.submit(5, barrier, -1);
            if (cancelled) {
                x.cancel(ticket);
            }
            return ticket;
        }
    }

    public static void main(String[] args) {
        onlyWhenQueued();
        noOlderOfTheSameHome();
        olderThatMayNotStartIsInTheWay();
        olderBindsEveryKind();
        holdCountAbove0();
        holdElsewhere();
        holdBindsEveryKind();
        widthReached();
        widthReachedByBlocksFromBelow();
        noWidthAtARoot();
        widthBindsEveryKind();
        liveBarrierInTheChain();
        liveBarrierElsewhere();
        liveBarrierBindsEveryKind();
        closedQueueInTheChain();
        closedOnlyByTheOldestQueued();
        closedElsewhere();
        closedByACancelledBarrier();
        closedByACancelledBarrierThatIsHeld();
        closedByACancelledBarrierWithACaller();
        closedBindsEveryKind();
        barrierNeedsAnEmptyHome();
        barrierDoesNotMindTheRest();
        barrierOfEveryKind();
        workerFree();
        workerNotNeeded();
        workerForEveryKind();
        workersInUse();
        DUE.end();
    }

    private static BarrierDispatch chain(int workers, int[] widths) {
        BarrierDispatch x = new BarrierDispatch(workers);
        x.queue(0, widths[0]);
        x.queue(3, widths[1]);
        x.queue(4, widths[2]);
        x.queue(4, 8);
        x.queue(5, 8);
        return x;
    }

    private static void mayStart(String when, BarrierDispatch x, int ticket) {
        DUE.is(when + ", ready()", 1, x.ready());
        DUE.is(when + ", begin()", ticket, x.begin());
    }

    private static void mayNotStart(String when, BarrierDispatch x) {
        DUE.is(when + ", ready()", 0, x.ready());
        DUE.is(when + ", begin()", BarrierDispatch.IDLE, x.begin());
    }

    /** A cancelled block that may start is skipped. */
    private static void isSkipped(String when, BarrierDispatch x, int ticket) {
        DUE.is(when + ", ready()", 1, x.ready());
        DUE.is(when + ", begin()", BarrierDispatch.IDLE, x.begin());
        DUE.is(when + ", state", 14, x.state(ticket));
    }

    /** A RUNNING block at root 2, which is in no chain here; its ticket. */
    private static int runningAside(BarrierDispatch x) {
        int ticket = x.submit(2, false, -1);
        x.begin();
        return ticket;
    }

    /** So many live blocks with home q, each but the last WAITING for the next; they need one worker for their caller. */
    private static int fill(BarrierDispatch x, int q, int live) {
        int last = runningAside(x);
        for (int i = 0; i < live; i++) {
            last = x.call(last, q, false);
            x.begin();
        }
        DUE.is("the filled queue", live, x.through(q));
        return last;
    }

    /** Whatever kind of block it is, with home 5: it may not start before what is in its way is cleared. */
    private static void bindsEveryKind(String when, int[] widths, Scene inTheWay, Scene cleared) {
        for (Kind kind : Kind.values()) {
            BarrierDispatch x = chain(8, widths);
            inTheWay.set(x);
            int ticket = kind.come(x);
            mayNotStart(when + ", " + kind, x);
            cleared.set(x);
            goesOn(when + " no more", x, kind, ticket);
        }
    }

    /** It may start: a cancelled block is skipped then, any other begins. */
    private static void goesOn(String when, BarrierDispatch x, Kind kind, int ticket) {
        if (kind.cancelled) {
            isSkipped(when + ", " + kind, x, ticket);
        } else {
            mayStart(when + ", " + kind, x, ticket);
        }
    }

    private static void onlyWhenQueued() {
        DUE.part("may start 1: it is QUEUED");
        BarrierDispatch x = chain(8, WIDE);
        x.enter(0);
        x.whenDone(0, 5);
        mayNotStart("HELD", x);
        x.leave(0);
        mayStart("QUEUED", x, 0);
        mayNotStart("RUNNING", x);
        x.call(0, 2, false);
        mayStart("WAITING, the called one", x, 1);
        mayNotStart("WAITING", x);
        x.finish(1);
        mayNotStart("RUNNING again", x);
        x.finish(0);
        mayNotStart("DONE", x);
        x.after(5, 1);
        mayNotStart("DELAYED", x);
        x.advance(1);
        x.cancel(2);
        isSkipped("QUEUED and cancelled", x, 2);
        mayNotStart("SKIPPED", x);
    }

    private static void noOlderOfTheSameHome() {
        DUE.part("may start 1: no older QUEUED block has the same home");
        BarrierDispatch x = chain(8, WIDE);
        x.submit(5, false, -1);
        x.submit(5, false, -1);
        x.submit(4, false, -1);
        DUE.is("of 5 the oldest alone, of 4 another, ready()", 2, x.ready());
        DUE.is("begin()", 0, x.begin());
        DUE.is("the oldest is RUNNING, ready()", 2, x.ready());
        DUE.is("begin()", 1, x.begin());
        DUE.is("begin()", 2, x.begin());

        BarrierDispatch y = chain(8, WIDE);
        y.after(5, 1);
        y.submit(5, true, -1);
        y.advance(1);
        mayStart("a lesser ticket is not older, and a barrier is first", y, 1);
        mayNotStart("the other one", y);
        y.finish(1);
        mayStart("the other one", y, 0);
    }

    private static void olderThatMayNotStartIsInTheWay() {
        DUE.part("may start 1: an older block that may not start is in the way of the younger");
        BarrierDispatch x = chain(8, WIDE);
        x.submit(5, false, -1);
        x.begin();
        x.submit(5, true, -1);
        x.submit(5, false, -1);
        mayNotStart("a barrier waits, the younger is none", x);
        x.cancel(2);
        mayNotStart("the younger is cancelled", x);

        BarrierDispatch y = new BarrierDispatch(1);
        y.submit(1, false, -1);
        y.begin();
        y.submit(0, false, -1);
        y.call(0, 0, false);
        mayNotStart("the older has no worker, the younger needs none", y);
        y.cancel(1);
        DUE.is("the older is cancelled, ready()", 1, y.ready());
        DUE.is("it is skipped, and the younger begins", 2, y.begin());
    }

    private static void olderBindsEveryKind() {
        DUE.part("may start 1: an older block of the same home binds every kind of block");
        bindsEveryKind("a barrier waits", WIDE, x -> {
            x.submit(7, false, -1);
            x.begin();
            x.submit(5, true, -1);
        }, x -> {
            x.finish(0);
            x.begin();
            x.finish(1);
        });
    }

    private static void holdCountAbove0() {
        DUE.part("may start 2: no queue of its home's chain has a hold count above 0");
        for (int held : CHAIN) {
            BarrierDispatch x = chain(8, WIDE);
            x.submit(5, false, -1);
            x.hold(held, true);
            mayNotStart("1 at " + held, x);
            x.hold(held, true);
            mayNotStart("2 at " + held, x);
            x.hold(held, false);
            mayNotStart("1 again at " + held, x);
            x.hold(held, false);
            mayStart("0 again at " + held, x, 0);
            for (int i = 0; i < 100; i++) {
                x.hold(held, true);
            }
            x.submit(5, false, -1);
            mayNotStart("100 at " + held, x);
            x.cancel(1);
            mayNotStart("cancelled, 100 at " + held, x);
        }
        BarrierDispatch y = chain(8, WIDE);
        int caller = runningAside(y);
        y.hold(4, true);
        y.call(caller, 5, false);
        mayNotStart("it has a caller, 1 at 4", y);
        y.hold(4, false);
        mayStart("it has a caller, 0 at 4", y, 1);
    }

    private static void holdElsewhere() {
        DUE.part("may start 2: a hold beside or below its home's chain is not in the way");
        BarrierDispatch x = chain(8, WIDE);
        x.hold(6, true);
        x.hold(7, true);
        x.submit(5, false, -1);
        mayStart("5", x, 0);
        x.hold(5, true);
        x.submit(4, false, -1);
        mayStart("4", x, 1);
        x.hold(4, true);
        x.hold(3, true);
        x.submit(0, false, -1);
        mayStart("the root", x, 2);
        x.submit(7, false, -1);
        x.retarget(7, 1);
        mayNotStart("a hold of its own", x);
        x.hold(7, false);
        mayStart("retargeted to a chain without a hold", x, 3);
    }

    private static void holdBindsEveryKind() {
        DUE.part("may start 2: a hold binds every kind of block");
        for (int q : CHAIN) {
            bindsEveryKind("a hold at " + q, WIDE, x -> x.hold(q, true), x -> x.hold(q, false));
        }
    }

    private static void widthReached() {
        DUE.part("may start 3: fewer live blocks pass through x than the width of x");
        for (int narrow : CHAIN) {
            for (int width = 1; width <= 8; width++) {
                int[] widths = WIDE.clone();
                widths[narrow - 3] = width;
                String when = "width " + width + " of " + narrow;

                oneBelowTheWidth(when, chain(8, widths), narrow, width);
                theWidthReached(when, chain(8, widths), narrow, width);
            }
        }
    }

    private static void oneBelowTheWidth(String when, BarrierDispatch x, int narrow, int width) {
        fill(x, narrow, width - 1);
        int next = x.submit(5, false, -1);
        mayStart(when + ", one below it", x, next);
        DUE.is(when + ", now it is reached", width, x.through(narrow));
        x.submit(5, false, -1);
        mayNotStart(when + ", now it is reached", x);
    }

    private static void theWidthReached(String when, BarrierDispatch x, int narrow, int width) {
        int last = fill(x, narrow, width);
        int next = x.submit(5, false, -1);
        mayNotStart(when + ", reached", x);
        x.finish(last);
        mayStart(when + ", one has finished", x, next);
    }

    private static void widthReachedByBlocksFromBelow() {
        DUE.part("may start 3: blocks from other homes pass through x too");
        int[] homes = {6, 7, 4};
        for (int live = 0; live <= homes.length; live++) {
            BarrierDispatch x = chain(8, new int[] {8, 3, 8});
            for (int i = 0; i < live; i++) {
                x.submit(homes[i], false, -1);
                x.begin();
            }
            int next = x.submit(5, false, -1);
            DUE.is("through(4)", live, x.through(4));
            if (live < 3) {
                mayStart(live + " of 3 pass through 4", x, next);
            } else {
                mayNotStart("3 of 3 pass through 4", x);
                int above = x.submit(3, false, -1);
                mayStart("4 is not in the chain of 3", x, above);
            }
        }
    }

    private static void noWidthAtARoot() {
        DUE.part("may start 3: for every queue that is no root");
        for (int root = 0; root <= 2; root++) {
            BarrierDispatch x = new BarrierDispatch(8);
            Edges.makeQueues(x, 3, 4);
            x.submit(root, false, -1);
            x.begin();
            for (int caller = 0; caller < 20; caller++) {
                x.call(caller, root, false);
                mayStart((caller + 1) + " live blocks at the root", x, caller + 1);
            }
            x.submit(3, false, -1);
            mayStart("from a queue on root 0", x, 21);
        }
    }

    private static void widthBindsEveryKind() {
        DUE.part("may start 3: a width that is reached binds every kind of block");
        bindsEveryKind("width 1 of 4", new int[] {8, 1, 8}, x -> fill(x, 4, 1), x -> x.finish(1));
        bindsEveryKind("width 2 of 3", new int[] {2, 8, 8}, x -> fill(x, 3, 2), x -> x.finish(2));
        bindsEveryKind("width 8 of 3", new int[] {8, 8, 8}, x -> fill(x, 3, 8), x -> x.finish(8));
    }

    private static void liveBarrierInTheChain() {
        DUE.part("may start 4: no live block is a barrier with home x");
        for (int home : CHAIN) {
            BarrierDispatch x = chain(8, WIDE);
            x.submit(home, true, -1);
            x.begin();
            x.submit(5, false, -1);
            mayNotStart("RUNNING, home " + home, x);
            x.call(0, 2, false);
            mayStart("the called one, home " + home, x, 2);
            mayNotStart("WAITING, home " + home, x);
            x.finish(2);
            mayNotStart("RUNNING again, home " + home, x);
            x.finish(0);
            mayStart("DONE, home " + home, x, 1);
        }
    }

    private static void liveBarrierElsewhere() {
        DUE.part("may start 4: a live barrier whose home is not in the chain is not in the way");
        int[] homes = {6, 7};
        for (int home : homes) {
            BarrierDispatch x = chain(8, WIDE);
            x.submit(home, true, -1);
            x.begin();
            x.submit(5, false, -1);
            mayStart("home " + home + ", a block of 5", x, 1);
            x.submit(4, false, -1);
            mayStart("home " + home + ", a block of 4", x, 2);
            x.submit(0, false, -1);
            mayStart("home " + home + ", a block of the root", x, 3);
            x.submit(home, false, -1);
            mayNotStart("home " + home + ", a block of the same home", x);
        }
    }

    private static void liveBarrierBindsEveryKind() {
        DUE.part("may start 4: a live barrier in the chain binds every kind of block");
        for (int q : CHAIN) {
            bindsEveryKind("a barrier of " + q, WIDE, x -> {
                x.submit(q, true, -1);
                x.begin();
            }, x -> x.finish(0));
        }
    }

    /** A block of queue q is live, so that a barrier there has to wait, and closes it. */
    private static void close(BarrierDispatch x, int q) {
        x.submit(q, false, -1);
        x.begin();
        x.submit(q, true, -1);
    }

    private static BarrierDispatch closed(int q) {
        BarrierDispatch x = chain(8, WIDE);
        close(x, q);
        return x;
    }

    private static void closedQueueInTheChain() {
        DUE.part("may start 5: for every queue x other than its home: x is not CLOSED");
        int[] queues = {4, 3};
        for (int q : queues) {
            BarrierDispatch x = chain(8, WIDE);
            x.submit(q, false, -1);
            x.begin();
            x.submit(5, false, -1);
            mayStart("no block is QUEUED in " + q, x, 1);
            x.finish(1);
            x.submit(q, true, -1);
            x.submit(5, false, -1);
            mayNotStart("a barrier is QUEUED in " + q, x);
            x.finish(0);
            mayStart("the barrier itself, in " + q, x, 2);
            x.finish(2);
            mayStart("the barrier is DONE, " + q, x, 3);
        }
        BarrierDispatch older = chain(8, WIDE);
        older.submit(4, false, -1);
        older.begin();
        older.submit(5, false, -1);
        older.submit(4, true, -1);
        mayNotStart("also when the barrier is the younger", older);
        BarrierDispatch root = chain(8, WIDE);
        root.submit(0, false, -1);
        root.begin();
        root.submit(0, true, -1);
        root.submit(5, false, -1);
        DUE.is("a root is never closed, ready()", 2, root.ready());
    }

    private static void closedOnlyByTheOldestQueued() {
        DUE.part("may start 5: CLOSED by the oldest QUEUED block with home x (if there is one)");
        BarrierDispatch x = chain(8, WIDE);
        x.submit(4, false, -1);
        x.submit(4, true, -1);
        x.submit(5, false, -1);
        DUE.is("the barrier is second, ready()", 2, x.ready());
        DUE.is("begin()", 0, x.begin());
        mayNotStart("the barrier is first", x);

        BarrierDispatch y = chain(8, WIDE);
        y.after(4, 1);
        y.submit(4, true, -1);
        y.submit(5, false, -1);
        y.advance(1);
        DUE.is("a lesser ticket is not older, ready()", 1, y.ready());
        mayStart("the barrier is first", y, 1);

        BarrierDispatch z = chain(8, WIDE);
        z.submit(4, true, -1);
        z.submit(5, false, -1);
        mayStart("a barrier that may start closes its queue too", z, 0);
    }

    private static void closedElsewhere() {
        DUE.part("may start 5: a closed queue that is its home, or not in its chain, is not in the way");
        BarrierDispatch x = closed(6);
        x.submit(5, false, -1);
        mayStart("6 is closed, a block of 5", x, 2);
        BarrierDispatch y = closed(7);
        y.submit(5, false, -1);
        mayStart("7 is closed, a block of 5", y, 2);
        BarrierDispatch z = chain(8, WIDE);
        z.submit(5, true, -1);
        mayStart("its home is closed by itself", z, 0);
        BarrierDispatch moved = closed(4);
        moved.submit(5, false, -1);
        mayNotStart("4 is closed", moved);
        moved.retarget(5, 3);
        mayStart("5 is retargeted past 4", moved, 2);
    }

    private static void closedByACancelledBarrier() {
        DUE.part("may start 5: a cancelled barrier is QUEUED until it is skipped");
        BarrierDispatch x = closed(4);
        x.submit(5, false, -1);
        x.cancel(1);
        mayNotStart("4 is closed", x);
        x.finish(0);
        DUE.is("only the barrier may start, ready()", 1, x.ready());
        DUE.is("it is skipped, and 4 is open", 2, x.begin());
        DUE.is("state(1)", 14, x.state(1));
    }

    private static void closedByACancelledBarrierThatIsHeld() {
        DUE.part("may start 5: a cancelled barrier is QUEUED until it is skipped, however long it is held");
        BarrierDispatch held = closed(4);
        held.submit(4, false, -1);
        held.submit(5, false, -1);
        held.cancel(1);
        held.hold(4, true);
        held.finish(0);
        mayNotStart("4 is held, and the barrier the oldest of its line", held);
        held.retarget(5, 3);
        mayStart("5 is retargeted past 4", held, 3);
        held.hold(4, false);
        DUE.is("the barrier is skipped, the next of its line begins", 2, held.begin());
    }

    private static void closedByACancelledBarrierWithACaller() {
        DUE.part("may start 5: a cancelled barrier is QUEUED until it is skipped, also one that has a caller");
        BarrierDispatch called = chain(8, WIDE);
        called.submit(4, false, -1);
        called.begin();
        int waiting = runningAside(called);
        called.call(waiting, 4, true);
        called.submit(5, false, -1);
        called.cancel(2);
        mayNotStart("4 is closed by a barrier that has a caller", called);
        called.finish(0);
        mayStart("it is skipped, and 4 is open", called, 3);
        DUE.is("its caller goes on", 3, called.state(waiting));
    }

    private static void closedBindsEveryKind() {
        DUE.part("may start 5: a closed queue in the chain binds every kind of block");
        int[] queues = {4, 3};
        for (int q : queues) {
            bindsEveryKind(q + " is closed", WIDE, x -> close(x, q), x -> {
                x.finish(0);
                x.begin();
                x.finish(1);
            });
        }
    }

    private static void barrierNeedsAnEmptyHome() {
        DUE.part("may start 6: if it is a barrier: no live block passes through its home");
        int[] homes = {5, 7};
        for (int home : homes) {
            BarrierDispatch x = chain(8, WIDE);
            x.submit(home, false, -1);
            x.submit(home, false, -1);
            x.begin();
            x.begin();
            x.submit(5, true, -1);
            mayNotStart("two blocks of " + home, x);
            x.finish(0);
            mayNotStart("one block of " + home, x);
            x.call(1, 2, false);
            mayStart("the called one", x, 3);
            mayNotStart("one WAITING block of " + home, x);
            x.finish(3);
            x.finish(1);
            mayStart("none", x, 2);
        }
    }

    private static void barrierDoesNotMindTheRest() {
        DUE.part("may start 6: blocks above and beside its home do not pass through it");
        BarrierDispatch x = chain(8, WIDE);
        int[] homes = {4, 3, 6, 0};
        for (int home : homes) {
            x.submit(home, false, -1);
            x.begin();
        }
        x.submit(5, true, -1);
        mayStart("a barrier of 5", x, 4);
        BarrierDispatch y = chain(8, WIDE);
        y.submit(5, false, -1);
        y.begin();
        y.submit(5, false, -1);
        mayStart("no barrier, though a block is live", y, 1);
        y.submit(7, true, -1);
        mayStart("a barrier below", y, 2);
    }

    private static void barrierOfEveryKind() {
        DUE.part("may start 6: it binds barriers of every kind, and no other block");
        int[] homes = {5, 7};
        for (int home : homes) {
            for (Kind kind : Kind.values()) {
                BarrierDispatch x = chain(8, WIDE);
                x.submit(home, false, -1);
                x.begin();
                int ticket = kind.come(x);
                if (kind.barrier) {
                    mayNotStart("a live block of " + home + ", " + kind, x);
                    x.finish(0);
                }
                goesOn("home " + home, x, kind, ticket);
            }
        }
    }

    private static void workerFree() {
        DUE.part("may start 7: a worker is free");
        for (int workers = 1; workers <= 8; workers++) {
            BarrierDispatch x = new BarrierDispatch(workers);
            for (int ticket = 0; ticket < workers; ticket++) {
                x.submit(0, false, -1);
                mayStart(ticket + " of " + workers + " workers in use", x, ticket);
            }
            x.submit(0, false, -1);
            mayNotStart("all " + workers + " workers in use", x);
            x.finish(workers - 1);
            mayStart("one of " + workers + " workers is free again", x, workers);
            mayNotStart("all " + workers + " workers in use again", x);
        }
    }

    private static void workerNotNeeded() {
        DUE.part("may start 7: it is cancelled, or it has a caller, when no worker is free");
        BarrierDispatch x = new BarrierDispatch(1);
        x.submit(0, false, -1);
        x.begin();
        x.submit(1, false, -1);
        mayNotStart("neither", x);
        x.cancel(1);
        isSkipped("it is cancelled", x, 1);
        x.call(0, 1, false);
        mayStart("it has a caller", x, 2);
        x.call(2, 1, false);
        x.cancel(3);
        isSkipped("both", x, 3);
        DUE.is("state(2)", 3, x.state(2));
        x.submit(2, false, -1);
        mayNotStart("neither", x);
    }

    private static void workerForEveryKind() {
        DUE.part("may start 7: no worker is free, for every kind of block");
        for (Kind kind : Kind.values()) {
            BarrierDispatch x = chain(1, WIDE);
            if (!kind.called) {
                runningAside(x);
            }
            int ticket = kind.come(x);
            if (!kind.called && !kind.cancelled) {
                mayNotStart("the worker is in use, " + kind, x);
                x.finish(0);
            }
            goesOn("one worker", x, kind, ticket);
        }
    }

    private static void workersInUse() {
        DUE.part("may start 7: as many workers are in use as there are live blocks without a caller");
        BarrierDispatch x = new BarrierDispatch(2);
        x.submit(0, false, -1);
        x.begin();
        x.call(0, 0, false);
        x.begin();
        x.call(1, 0, false);
        x.begin();
        x.submit(1, false, -1);
        mayStart("three are live, two with a caller", x, 3);
        x.submit(1, false, -1);
        mayNotStart("two are live without a caller, one of them WAITING", x);
        x.finish(2);
        mayNotStart("one with a caller has finished", x);
        x.finish(1);
        mayNotStart("the other with a caller has finished", x);
        x.finish(0);
        mayStart("one without a caller has finished", x, 4);
        x.submit(2, false, -1);
        mayNotStart("two are live without a caller", x);
    }
}
