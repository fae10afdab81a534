/** Numbers around the document's limits, and the least and the greatest that a call can be given. */
final class Edges {
    /** No object has queues with these numbers. */
    static final int[] NEVER_QUEUES = {Integer.MIN_VALUE, -2, -1, 12, 13, 160, Integer.MAX_VALUE};
    static final int[] NEVER_GROUPS = {Integer.MIN_VALUE, -3, -2, -1, 4, 5, Integer.MAX_VALUE};
    /** No object has blocks with these tickets. */
    static final int[] NEVER_TICKETS = {Integer.MIN_VALUE, -2, -1, 160, 161, Integer.MAX_VALUE};
    static final int MOST_QUEUES = 12;
    static final int MOST_BLOCKS = 160;

    private Edges() {
    }

    static void makeQueues(BarrierDispatch x, int from, int below) {
        for (int number = from; number < below; number++) {
            x.queue(0, 8);
        }
    }

    static void submitBlocks(BarrierDispatch x, int from, int below) {
        for (int ticket = from; ticket < below; ticket++) {
            x.submit(1, false, -1);
        }
    }
}
