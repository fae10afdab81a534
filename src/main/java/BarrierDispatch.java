/**
 * Runs blocks from a tree of queues on a bounded pool of workers, with barriers, suspension,
 * groups, delays and blocks that wait for others. Nothing goes on by itself: the caller says
 * when a block begins, when it has finished, and how far the clock has moved.
 */
public final class BarrierDispatch {
    public static final int NOQUEUE = -1;
    public static final int NOGROUP = -2;
    public static final int NOBLOCK = -3;
    public static final int FULL = -4;
    public static final int CYCLE = -5;
    public static final int BUSY = -6;
    public static final int DEADLOCK = -7;
    public static final int IDLE = -8;
    public static final int BAD = -9;
    public static final long FOREVER = 9223372036854775807L;

    private static final int ROOTS = 3;
    private static final int MOST_QUEUES = 12;
    private static final int MOST_WIDTH = 8;
    private static final int MOST_HOLDS = 100;
    private static final int MOST_BLOCKS = 160;
    private static final int MOST_WORKERS = 8;
    private static final int GROUPS = 4;
    private static final int MOST_ENTERED = 200;
    private static final int NO_MEMBER = -1;

    private static final int HELD = 0;
    private static final int DELAYED = 1;
    private static final int QUEUED = 2;
    private static final int RUNNING = 3;
    private static final int WAITING = 4;
    private static final int DONE = 5;
    private static final int SKIPPED = 6;
    private static final int CANCELLED_MARK = 8;

    private final int workers;
    private final Queue[] queues;
    private final Block[] blocks;
    private final Group[] groups;
    private int queueCount;
    private int blockCount;
    private int busyWorkers;
    private int nextAge;
    private long clock;

    public BarrierDispatch(int workers) {
        this.workers = Math.max(1, Math.min(MOST_WORKERS, workers));
        queues = new Queue[MOST_QUEUES];
        blocks = new Block[MOST_BLOCKS];
        groups = new Group[GROUPS];
        for (int i = 0; i < ROOTS; i++) {
            queues[i] = new Queue(i, null, 0);
        }
        queueCount = ROOTS;
        for (int i = 0; i < GROUPS; i++) {
            groups[i] = new Group();
        }
    }

    public int queue(int target, int width) {
        Queue onto = queueAt(target);
        if (onto == null) {
            return NOQUEUE;
        }
        if (width < 1 || width > MOST_WIDTH) {
            return BAD;
        }
        if (queueCount >= MOST_QUEUES) {
            return FULL;
        }
        int number = queueCount;
        queues[number] = new Queue(number, onto, width);
        queueCount++;
        return number;
    }

    public int retarget(int q, int target) {
        Queue moved = queueAt(q);
        Queue onto = queueAt(target);
        if (moved == null || moved.isRoot() || onto == null) {
            return NOQUEUE;
        }
        if (onto.leadsTo(moved)) {
            return CYCLE;
        }
        if (moved.liveBlocks > 0) {
            return BUSY;
        }
        moved.target = onto;
        return 0;
    }

    public int submit(int q, boolean barrier, int group) {
        Queue home = queueAt(q);
        if (home == null) {
            return NOQUEUE;
        }
        Group joined = groupAt(group);
        if (joined == null && group != NO_MEMBER) {
            return NOGROUP;
        }
        if (isFull()) {
            return FULL;
        }
        Block block = accept(home, barrier);
        if (joined != null) {
            block.memberOf = joined;
            joined.openMembers++;
        }
        line(block);
        return block.ticket;
    }

    public int after(int q, long delay) {
        Queue home = queueAt(q);
        if (home == null) {
            return NOQUEUE;
        }
        if (isFull()) {
            return FULL;
        }
        Block block = accept(home, false);
        if (delay <= 0) {
            line(block);
        } else {
            block.state = DELAYED;
            block.deadline = deadlineIn(delay);
        }
        return block.ticket;
    }

    public int call(int caller, int q, boolean barrier) {
        Block waiter = blockAt(caller);
        if (waiter == null || waiter.state != RUNNING) {
            return NOBLOCK;
        }
        Queue home = queueAt(q);
        if (home == null) {
            return NOQUEUE;
        }
        if (wouldDeadlock(waiter, home, barrier)) {
            return DEADLOCK;
        }
        if (isFull()) {
            return FULL;
        }
        Block block = accept(home, barrier);
        block.caller = waiter;
        waiter.state = WAITING;
        line(block);
        return block.ticket;
    }

    public int whenDone(int group, int q) {
        Group awaited = groupAt(group);
        if (awaited == null) {
            return NOGROUP;
        }
        Queue home = queueAt(q);
        if (home == null) {
            return NOQUEUE;
        }
        if (isFull()) {
            return FULL;
        }
        Block block = accept(home, false);
        if (awaited.isEmpty()) {
            line(block);
        } else {
            block.state = HELD;
            block.heldFor = awaited;
        }
        return block.ticket;
    }

    public boolean enter(int group) {
        Group entered = groupAt(group);
        if (entered == null || entered.entries >= MOST_ENTERED) {
            return false;
        }
        entered.entries++;
        return true;
    }

    public boolean leave(int group) {
        Group left = groupAt(group);
        if (left == null || left.entries <= 0) {
            return false;
        }
        left.entries--;
        releaseIfEmpty(left);
        return true;
    }

    public boolean cancel(int ticket) {
        Block block = blockAt(ticket);
        if (block == null || block.cancelled || !block.isAhead()) {
            return false;
        }
        block.cancelled = true;
        return true;
    }

    public int hold(int q, boolean on) {
        Queue held = queueAt(q);
        if (held == null || held.isRoot()) {
            return NOQUEUE;
        }
        if (on && held.holds >= MOST_HOLDS) {
            return FULL;
        }
        if (!on && held.holds <= 0) {
            return IDLE;
        }
        held.holds += on ? 1 : -1;
        return held.holds;
    }

    public int begin() {
        // Every round but the last takes a block out of a line, and no block is lined up twice.
        for (int round = 0; round <= MOST_BLOCKS; round++) {
            Block chosen = choose();
            if (chosen == null) {
                return IDLE;
            }
            chosen.home.dropFirst();
            if (!chosen.cancelled) {
                start(chosen);
                return chosen.ticket;
            }
            conclude(chosen, SKIPPED);
        }
        return IDLE;
    }

    public boolean finish(int ticket) {
        Block block = blockAt(ticket);
        if (block == null || block.state != RUNNING) {
            return false;
        }
        withdraw(block);
        conclude(block, DONE);
        return true;
    }

    public int advance(long span) {
        if (span < 0) {
            return BAD;
        }
        long room = FOREVER - 1 - clock;
        clock += Math.min(span, room);
        int lined = 0;
        Block due = nextDue();
        while (due != null && lined < MOST_BLOCKS) {
            line(due);
            lined++;
            due = nextDue();
        }
        return lined;
    }

    public long now() {
        return clock;
    }

    public int state(int ticket) {
        Block block = blockAt(ticket);
        if (block == null) {
            return NOBLOCK;
        }
        return block.cancelled ? block.state + CANCELLED_MARK : block.state;
    }

    public int queued(int q) {
        Queue asked = queueAt(q);
        return asked == null ? NOQUEUE : asked.lineLength;
    }

    public int through(int q) {
        Queue asked = queueAt(q);
        return asked == null ? NOQUEUE : asked.liveBlocks;
    }

    public int peak(int q) {
        Queue asked = queueAt(q);
        return asked == null ? NOQUEUE : asked.mostLive;
    }

    public int count(int group) {
        Group asked = groupAt(group);
        return asked == null ? NOGROUP : asked.entries + asked.openMembers;
    }

    public int ready() {
        int able = 0;
        for (int i = 0; i < queueCount; i++) {
            if (mayStart(queues[i].first)) {
                able++;
            }
        }
        return able;
    }

    private Queue queueAt(int number) {
        return number >= 0 && number < queueCount ? queues[number] : null;
    }

    private Block blockAt(int ticket) {
        return ticket >= 0 && ticket < blockCount ? blocks[ticket] : null;
    }

    private Group groupAt(int number) {
        return number >= 0 && number < GROUPS ? groups[number] : null;
    }

    private boolean isFull() {
        return blockCount >= MOST_BLOCKS;
    }

    private Block accept(Queue home, boolean barrier) {
        Block block = new Block(blockCount, home, barrier && !home.isRoot());
        blocks[blockCount] = block;
        blockCount++;
        return block;
    }

    private void line(Block block) {
        block.state = QUEUED;
        block.age = nextAge;
        nextAge++;
        block.home.append(block);
    }

    private long deadlineIn(long delay) {
        // The sum itself could overflow, the difference can't.
        return delay >= FOREVER - clock ? FOREVER : clock + delay;
    }

    /** The DELAYED block that is to be lined up next, or null when none is due. */
    private Block nextDue() {
        Block next = null;
        for (int i = 0; i < blockCount; i++) {
            Block block = blocks[i];
            boolean due = block.state == DELAYED && block.deadline <= clock;
            if (due && (next == null || block.deadline < next.deadline)) {
                next = block;
            }
        }
        return next;
    }

    private static boolean wouldDeadlock(Block caller, Queue home, boolean barrier) {
        for (Queue x = home; x != null && !x.isRoot(); x = x.target) {
            boolean shutsOut = x.width == 1 || barrier && x == home;
            for (Block c = caller; c != null; c = c.caller) {
                boolean guards = c.barrier && c.home == x;
                if ((shutsOut || guards) && c.home.leadsTo(x)) {
                    return true;
                }
            }
        }
        return false;
    }

    /** Of the blocks that may start, the one that begin takes; null when there is none. */
    private Block choose() {
        Block best = null;
        for (int i = 0; i < queueCount; i++) {
            Block first = queues[i].first;
            if (mayStart(first) && (best == null || first.goesBefore(best))) {
                best = first;
            }
        }
        return best;
    }

    /** Whether the first block of a line (null: the line is empty) may start. */
    private boolean mayStart(Block first) {
        if (first == null || !first.isLetIn()) {
            return false;
        }
        return first.cancelled || first.caller != null || busyWorkers < workers;
    }

    private void start(Block block) {
        block.state = RUNNING;
        if (block.caller == null) {
            busyWorkers++;
        }
        if (block.barrier) {
            block.home.barrierIsLive = true;
        }
        for (Queue x = block.home; x != null; x = x.target) {
            x.liveBlocks++;
            x.mostLive = Math.max(x.mostLive, x.liveBlocks);
        }
    }

    /** Takes back what start did; the chain is still the same, for retarget refuses while it is in use. */
    private void withdraw(Block block) {
        if (block.caller == null) {
            busyWorkers--;
        }
        if (block.barrier) {
            block.home.barrierIsLive = false;
        }
        for (Queue x = block.home; x != null; x = x.target) {
            x.liveBlocks--;
        }
    }

    private void conclude(Block block, int finalState) {
        block.state = finalState;
        if (block.caller != null) {
            block.caller.state = RUNNING;
        }
        if (block.memberOf != null) {
            block.memberOf.openMembers--;
            releaseIfEmpty(block.memberOf);
        }
    }

    private void releaseIfEmpty(Group group) {
        if (!group.isEmpty()) {
            return;
        }
        for (int i = 0; i < blockCount; i++) {
            if (blocks[i].state == HELD && blocks[i].heldFor == group) {
                line(blocks[i]);
            }
        }
    }

    /** A queue of the tree, with the line of its QUEUED blocks from the oldest to the youngest. */
    private static final class Queue {
        final int number;
        final int width;
        /** Null at a root, and only there. */
        Queue target;
        int holds;
        Block first;
        Block last;
        int lineLength;
        int liveBlocks;
        int mostLive;
        /** One flag is enough: while a barrier is live, no other block of its home may start. */
        boolean barrierIsLive;

        Queue(int number, Queue target, int width) {
            this.number = number;
            this.target = target;
            this.width = width;
        }

        boolean isRoot() {
            return target == null;
        }

        /** Whether the other queue is in the chain of this one. */
        boolean leadsTo(Queue other) {
            for (Queue x = this; x != null; x = x.target) {
                if (x == other) {
                    return true;
                }
            }
            return false;
        }

        int quality() {
            Queue end = this;
            for (Queue x = this; x != null; x = x.target) {
                end = x;
            }
            return end.number;
        }

        boolean hasRoom() {
            return isRoot() || liveBlocks < width;
        }

        boolean isClosed() {
            return first != null && first.barrier;
        }

        void append(Block block) {
            if (last == null) {
                first = block;
            } else {
                last.younger = block;
            }
            last = block;
            lineLength++;
        }

        void dropFirst() {
            if (first == null) {
                return;
            }
            first = first.younger;
            if (first == null) {
                last = null;
            }
            lineLength--;
        }
    }

    private static final class Block {
        final int ticket;
        final Queue home;
        final boolean barrier;
        int state;
        boolean cancelled;
        Block caller;
        Group memberOf;
        Group heldFor;
        long deadline;
        /** Counts up over all queues, so it tells which of two QUEUED blocks is the older. */
        int age;
        /** The next block in the line of the same home. */
        Block younger;

        Block(int ticket, Queue home, boolean barrier) {
            this.ticket = ticket;
            this.home = home;
            this.barrier = barrier;
        }

        /** Whether the block has still to begin. */
        boolean isAhead() {
            return state == HELD || state == DELAYED || state == QUEUED;
        }

        /** Whether the queues of the chain let the block in, leaving the workers aside. */
        boolean isLetIn() {
            if (barrier && home.liveBlocks > 0) {
                return false;
            }
            for (Queue x = home; x != null; x = x.target) {
                if (x.holds > 0 || !x.hasRoom() || x.barrierIsLive) {
                    return false;
                }
                if (x != home && x.isClosed()) {
                    return false;
                }
            }
            return true;
        }

        boolean goesBefore(Block other) {
            int mine = home.quality();
            int others = other.home.quality();
            return mine > others || mine == others && age < other.age;
        }
    }

    private static final class Group {
        int entries;
        /** Members that are neither DONE nor SKIPPED. */
        int openMembers;

        boolean isEmpty() {
            return entries == 0 && openMembers == 0;
        }
    }
}
