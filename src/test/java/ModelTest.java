/**
 * Long runs of calls on the class and on the model side by side; every answer has to be the same.
 * The numbers are drawn from a fixed seed, so each run of the test makes the same calls.
 */
public final class ModelTest {
    private static final int RUNS = 1500;
    /** As many as the document lets an object be used for. */
    private static final int CALLS = 512;
    /** How often a kind of call is made in a run of that temper. */
    private static final int[][] TEMPERS = {
        // queue, retarget, submit, after, call, whenDone, enter/leave, cancel, hold, begin, finish, advance, a reading
        {3, 3, 12, 4, 8, 4, 4, 4, 2, 20, 16, 4, 30},
        {2, 1, 14, 0, 30, 1, 1, 4, 1, 34, 14, 0, 40},
        {2, 4, 20, 2, 2, 8, 8, 16, 1, 16, 14, 3, 40},
        {1, 1, 6, 24, 1, 2, 2, 2, 0, 12, 10, 14, 30},
        {4, 8, 20, 1, 6, 1, 1, 3, 8, 24, 22, 1, 40},
        {1, 1, 60, 2, 12, 4, 2, 3, 1, 60, 12, 1, 50},
    };
    private static final long[] SPANS = {0, 1, 2, 3, 5, 8, 13, -1, 1000, Long.MAX_VALUE, Long.MAX_VALUE - 1,
        Long.MAX_VALUE - 20, Long.MIN_VALUE};

    private static final Due DUE = new Due();
    private static long seed = 20261115L;

    private final BarrierDispatch made;
    private final Model model;
    private final int[] temper;
    private final boolean narrow;
    private final int barriers;
    private final boolean longSpans;

    private ModelTest(int run) {
        int workers = below(6) == 0 ? below(13) - 2 : 1 + below(8);
        made = new BarrierDispatch(workers);
        model = new Model(workers);
        temper = TEMPERS[run % TEMPERS.length];
        narrow = below(3) == 0;
        barriers = 1 + below(4);
        longSpans = below(5) == 0;
    }

    public static void main(String[] args) {
        for (int run = 0; run < RUNS; run++) {
            DUE.part("run " + run);
            new ModelTest(run).go();
        }
        DUE.end();
    }

    private static int below(int bound) {
        seed = seed * 6364136223846793005L + 1442695040888963407L;
        return (int) ((seed >>> 33) % bound);
    }

    private void go() {
        int queuesFirst = below(8);
        for (int i = 0; i < CALLS; i++) {
            if (i < queuesFirst) {
                makeQueue();
            } else {
                act(kind());
            }
        }
    }

    private int kind() {
        int sum = 0;
        for (int weight : temper) {
            sum += weight;
        }
        int drawn = below(sum);
        int kind = 0;
        while (kind < temper.length - 1 && drawn >= temper[kind]) {
            drawn -= temper[kind];
            kind++;
        }
        return kind;
    }

    private int someQueue() {
        return below(25) == 0 ? below(16) - 2 : below(model.queues());
    }

    private int someGroup() {
        return below(25) == 0 ? below(8) - 2 : below(4);
    }

    /** A ticket in that state if one is found soon, else any. */
    private int someTicket(int state) {
        int blocks = model.blocks();
        if (blocks == 0 || below(25) == 0) {
            return below(blocks + 4) - 2;
        }
        int from = below(blocks);
        for (int i = 0; i < blocks; i++) {
            int ticket = (from + i) % blocks;
            if (model.state(ticket) % 8 == state) {
                return ticket;
            }
        }
        return from;
    }

    private boolean someBarrier() {
        return below(6) < barriers;
    }

    private long someSpan() {
        return longSpans ? SPANS[below(SPANS.length)] : below(12) - 1;
    }

    private void makeQueue() {
        int target = someQueue();
        int width = below(20) == 0 ? below(12) - 1 : 1 + below(narrow ? 2 : 8);
        DUE.is("queue(" + target + ", " + width + ")", model.queue(target, width), made.queue(target, width));
    }

    private void act(int kind) {
        switch (kind) {
            case 0 -> makeQueue();
            case 1 -> {
                int q = someQueue();
                int target = someQueue();
                DUE.is("retarget(" + q + ", " + target + ")", model.retarget(q, target), made.retarget(q, target));
            }
            case 2 -> {
                int q = someQueue();
                boolean barrier = someBarrier();
                int group = below(2) == 0 ? -1 : someGroup();
                DUE.is("submit(" + q + ", " + barrier + ", " + group + ")",
                        model.submit(q, barrier, group), made.submit(q, barrier, group));
            }
            case 3 -> {
                int q = someQueue();
                long delay = someSpan();
                DUE.is("after(" + q + ", " + delay + ")", model.after(q, delay), made.after(q, delay));
            }
            case 4 -> {
                int caller = someTicket(Model.RUNNING);
                int q = someQueue();
                boolean barrier = someBarrier();
                DUE.is("call(" + caller + ", " + q + ", " + barrier + ")",
                        model.call(caller, q, barrier), made.call(caller, q, barrier));
            }
            case 5 -> {
                int group = someGroup();
                int q = someQueue();
                DUE.is("whenDone(" + group + ", " + q + ")", model.whenDone(group, q), made.whenDone(group, q));
            }
            case 6 -> enterOrLeave();
            case 7 -> {
                int ticket = someTicket(below(3));
                DUE.is("cancel(" + ticket + ")", model.cancel(ticket) ? 1 : 0, made.cancel(ticket) ? 1 : 0);
            }
            case 8 -> {
                int q = someQueue();
                boolean on = below(5) < 2;
                DUE.is("hold(" + q + ", " + on + ")", model.hold(q, on), made.hold(q, on));
            }
            case 9 -> DUE.is("begin()", model.begin(), made.begin());
            case 10 -> {
                int ticket = someTicket(Model.RUNNING);
                DUE.is("finish(" + ticket + ")", model.finish(ticket) ? 1 : 0, made.finish(ticket) ? 1 : 0);
            }
            case 11 -> {
                long span = someSpan();
                DUE.is("advance(" + span + ")", model.advance(span), made.advance(span));
            }
            default -> read();
        }
    }

    private void enterOrLeave() {
        int group = someGroup();
        if (below(5) < 2) {
            DUE.is("enter(" + group + ")", model.enter(group) ? 1 : 0, made.enter(group) ? 1 : 0);
        } else {
            DUE.is("leave(" + group + ")", model.leave(group) ? 1 : 0, made.leave(group) ? 1 : 0);
        }
    }

    private void read() {
        switch (below(7)) {
            case 0 -> DUE.is("now()", model.now(), made.now());
            case 1 -> {
                int ticket = someTicket(below(7));
                DUE.is("state(" + ticket + ")", model.state(ticket), made.state(ticket));
            }
            case 2 -> {
                int q = someQueue();
                DUE.is("queued(" + q + ")", model.queued(q), made.queued(q));
            }
            case 3 -> {
                int q = someQueue();
                DUE.is("through(" + q + ")", model.through(q), made.through(q));
            }
            case 4 -> {
                int q = someQueue();
                DUE.is("peak(" + q + ")", model.peak(q), made.peak(q));
            }
            case 5 -> {
                int group = someGroup();
                DUE.is("count(" + group + ")", model.count(group), made.count(group));
            }
            default -> DUE.is("ready()", model.ready(), made.ready());
        }
    }
}
