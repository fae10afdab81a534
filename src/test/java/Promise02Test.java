/** Promise 2, queue: its edges, sentence by sentence. */
public final class Promise02Test {
    private static final Due DUE = new Due();
    private static final int[] WRONG_WIDTHS = {Integer.MIN_VALUE, -8, -1, 0, 9, 10, 16, Integer.MAX_VALUE};
    private static final NoChange NEW = new NoChange(DUE, 2, x -> { });
    private static final NoChange MIXED = new NoChange(DUE, Mixed.WORKERS, Mixed::set);
    private static final NoChange TWELVE = new NoChange(DUE, Mixed.WORKERS, Promise02Test::twelveQueues);

    public static void main(String[] args) {
        numbersUpToEleven();
        noQueueWithTheNumberTarget();
        everyQueueIsATarget();
        badWidth();
        everyWidth();
        fullWithTwelveQueues();
        noQueueBeforeBad();
        noQueueBeforeFull();
        badBeforeFull();
        noHoldAtFirst();
        DUE.end();
    }

    private static void twelveQueues(BarrierDispatch x) {
        Mixed.set(x);
        Edges.makeQueues(x, Mixed.QUEUES, Edges.MOST_QUEUES);
    }

    private static void numbersUpToEleven() {
        DUE.part("promise 2: a new queue: its number");
        BarrierDispatch x = new BarrierDispatch(1);
        for (int number = 3; number <= 11; number++) {
            DUE.is("before, queued(" + number + ")", BarrierDispatch.NOQUEUE, x.queued(number));
            DUE.is("queue(0, 1)", number, x.queue(0, 1));
            DUE.is("after, queued(" + number + ")", 0, x.queued(number));
        }
    }

    private static void noQueueWithTheNumberTarget() {
        DUE.part("promise 2: NOQUEUE when there is no queue with the number target");
        for (int target : Edges.NEVER_QUEUES) {
            NEW.is("queue(" + target + ", 1)", BarrierDispatch.NOQUEUE, x -> x.queue(target, 1));
            MIXED.is("queue(" + target + ", 8)", BarrierDispatch.NOQUEUE, x -> x.queue(target, 8));
        }
        NEW.is("one beyond the roots, queue(3, 1)", BarrierDispatch.NOQUEUE, x -> x.queue(3, 1));
        MIXED.is("one beyond the last, queue(8, 1)", BarrierDispatch.NOQUEUE, x -> x.queue(Mixed.QUEUES, 1));
    }

    private static void everyQueueIsATarget() {
        DUE.part("promise 2: a new queue with that target");
        for (int root = 0; root <= 2; root++) {
            BarrierDispatch x = new BarrierDispatch(1);
            DUE.is("queue(" + root + ", 1)", 3, x.queue(root, 1));
            for (int target = 3; target < 11; target++) {
                DUE.is("queue(" + target + ", 1)", target + 1, x.queue(target, 1));
            }
            x.submit(11, false, -1);
            x.begin();
            for (int q = 0; q <= 11; q++) {
                DUE.is("the chain goes through " + q, q == root || q > 2 ? 1 : 0, x.through(q));
            }
        }
    }

    private static void badWidth() {
        DUE.part("promise 2: BAD when width is not 1 .. 8");
        for (int width : WRONG_WIDTHS) {
            NEW.is("queue(0, " + width + ")", BarrierDispatch.BAD, x -> x.queue(0, width));
            MIXED.is("queue(7, " + width + ")", BarrierDispatch.BAD, x -> x.queue(7, width));
        }
    }

    private static void everyWidth() {
        DUE.part("promise 2: a new queue with that width");
        for (int width = 1; width <= 8; width++) {
            BarrierDispatch x = new BarrierDispatch(8);
            DUE.is("queue(2, " + width + ")", 3, x.queue(2, width));
            x.submit(0, false, -1);
            x.begin();
            int caller = 0;
            // Called blocks need no worker, so that the width alone is the limit.
            for (int live = 1; live <= width; live++) {
                caller = x.call(caller, 3, false);
                DUE.is("width " + width + ", begin()", caller, x.begin());
            }
            x.submit(3, false, -1);
            DUE.is("width " + width + ", one more: begin()", BarrierDispatch.IDLE, x.begin());
            DUE.is("width " + width + ", through(3)", width, x.through(3));
        }
    }

    private static void fullWithTwelveQueues() {
        DUE.part("promise 2: FULL when there are twelve queues");
        BarrierDispatch x = new BarrierDispatch(1);
        Edges.makeQueues(x, 3, 11);
        DUE.is("with eleven queues, queue(0, 1)", 11, x.queue(0, 1));
        DUE.is("with twelve queues, queue(0, 1)", BarrierDispatch.FULL, x.queue(0, 1));
        DUE.is("again, queue(11, 8)", BarrierDispatch.FULL, x.queue(11, 8));
        DUE.is("queued(11)", 0, x.queued(11));
        DUE.is("queued(12)", BarrierDispatch.NOQUEUE, x.queued(12));
        for (int q = 0; q <= 11; q++) {
            int target = q;
            TWELVE.is("queue(" + q + ", 1)", BarrierDispatch.FULL, y -> y.queue(target, 1));
            TWELVE.is("queue(" + q + ", 8)", BarrierDispatch.FULL, y -> y.queue(target, 8));
        }
    }

    private static void noQueueBeforeBad() {
        DUE.part("promise 2: NOQUEUE is named before BAD");
        for (int width : WRONG_WIDTHS) {
            NEW.is("queue(3, " + width + ")", BarrierDispatch.NOQUEUE, x -> x.queue(3, width));
            MIXED.is("queue(-1, " + width + ")", BarrierDispatch.NOQUEUE, x -> x.queue(-1, width));
        }
    }

    private static void noQueueBeforeFull() {
        DUE.part("promise 2: NOQUEUE is named before FULL");
        for (int target : Edges.NEVER_QUEUES) {
            TWELVE.is("queue(" + target + ", 1)", BarrierDispatch.NOQUEUE, x -> x.queue(target, 1));
            TWELVE.is("BAD too, queue(" + target + ", 0)", BarrierDispatch.NOQUEUE, x -> x.queue(target, 0));
        }
    }

    private static void badBeforeFull() {
        DUE.part("promise 2: BAD is named before FULL");
        for (int width : WRONG_WIDTHS) {
            TWELVE.is("queue(11, " + width + ")", BarrierDispatch.BAD, x -> x.queue(11, width));
        }
    }

    private static void noHoldAtFirst() {
        DUE.part("promise 2: the hold count of a new queue is at first 0");
        BarrierDispatch x = new BarrierDispatch(1);
        x.queue(0, 1);
        x.hold(3, true);
        DUE.is("on a held queue, queue(3, 1)", 4, x.queue(3, 1));
        DUE.is("hold(4, false)", BarrierDispatch.IDLE, x.hold(4, false));
        DUE.is("hold(4, true)", 1, x.hold(4, true));
    }
}
