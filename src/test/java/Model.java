import java.math.BigInteger;
import java.util.ArrayList;
import java.util.Comparator;
import java.util.List;

/**
 * The document's terms, copied literally: nothing is counted along the way, everything is looked up
 * anew from the states of all blocks. Slow, but with other mistakes than the class may have.
 */
final class Model {
    static final int HELD = 0;
    static final int DELAYED = 1;
    static final int QUEUED = 2;
    static final int RUNNING = 3;
    static final int WAITING = 4;
    static final int DONE = 5;
    static final int SKIPPED = 6;
    private static final BigInteger FOREVER = BigInteger.valueOf(BarrierDispatch.FOREVER);

    private static final class Item {
        int ticket;
        int home;
        boolean barrier;
        int group = -1;
        int heldFor = -1;
        Item caller;
        boolean cancelled;
        int state;
        BigInteger deadline = FOREVER;
        int place;

        boolean live() {
            return state == RUNNING || state == WAITING;
        }
    }

    private final int workers;
    private final List<Integer> targets = new ArrayList<>(List.of(-1, -1, -1));
    private final List<Integer> widths = new ArrayList<>(List.of(0, 0, 0));
    private final int[] holds = new int[12];
    private final int[] peaks = new int[12];
    private final int[] entered = new int[4];
    private final List<Item> items = new ArrayList<>();
    private BigInteger clock = BigInteger.ZERO;
    private int places;

    Model(int workers) {
        this.workers = workers < 1 ? 1 : workers > 8 ? 8 : workers;
    }

    private boolean isQueue(int q) {
        return q >= 0 && q < targets.size();
    }

    private static boolean isGroup(int group) {
        return group >= 0 && group <= 3;
    }

    private boolean isItem(int ticket) {
        return ticket >= 0 && ticket < items.size();
    }

    private List<Integer> chain(int q) {
        List<Integer> chain = new ArrayList<>();
        int x = q;
        while (x > 2) {
            chain.add(x);
            x = targets.get(x);
        }
        chain.add(x);
        return chain;
    }

    private int quality(int q) {
        List<Integer> chain = chain(q);
        return chain.get(chain.size() - 1);
    }

    private boolean passes(Item item, int q) {
        return chain(item.home).contains(q);
    }

    private Item oldestQueued(int home) {
        Item oldest = null;
        for (Item item : items) {
            if (item.state == QUEUED && item.home == home && (oldest == null || item.place < oldest.place)) {
                oldest = item;
            }
        }
        return oldest;
    }

    private boolean mayStart(Item item) {
        if (item.state != QUEUED || oldestQueued(item.home) != item) {
            return false;
        }
        for (int x : chain(item.home)) {
            if (holds[x] > 0) {
                return false;
            }
            if (x > 2 && through(x) >= widths.get(x)) {
                return false;
            }
            for (Item other : items) {
                if (other.live() && other.barrier && other.home == x) {
                    return false;
                }
            }
            Item first = oldestQueued(x);
            if (x != item.home && first != null && first.barrier) {
                return false;
            }
        }
        if (item.barrier && through(item.home) > 0) {
            return false;
        }
        int inUse = 0;
        for (Item other : items) {
            if (other.live() && other.caller == null) {
                inUse++;
            }
        }
        return item.cancelled || item.caller != null || inUse < workers;
    }

    private Item accept(int home, boolean barrier) {
        Item item = new Item();
        item.ticket = items.size();
        item.home = home;
        item.barrier = barrier && home > 2;
        items.add(item);
        return item;
    }

    private void becomeQueued(Item item) {
        item.state = QUEUED;
        item.place = places++;
    }

    private void release(int group) {
        if (group < 0 || count(group) != 0) {
            return;
        }
        for (Item item : items) {
            if (item.state == HELD && item.heldFor == group) {
                becomeQueued(item);
            }
        }
    }

    private void end(Item item, int state) {
        item.state = state;
        if (item.caller != null) {
            item.caller.state = RUNNING;
        }
        release(item.group);
    }

    int queue(int target, int width) {
        if (!isQueue(target)) {
            return BarrierDispatch.NOQUEUE;
        }
        if (width < 1 || width > 8) {
            return BarrierDispatch.BAD;
        }
        if (targets.size() == 12) {
            return BarrierDispatch.FULL;
        }
        targets.add(target);
        widths.add(width);
        return targets.size() - 1;
    }

    int retarget(int q, int target) {
        if (!isQueue(q) || q < 3 || !isQueue(target)) {
            return BarrierDispatch.NOQUEUE;
        }
        if (chain(target).contains(q)) {
            return BarrierDispatch.CYCLE;
        }
        if (through(q) > 0) {
            return BarrierDispatch.BUSY;
        }
        targets.set(q, target);
        return 0;
    }

    int submit(int q, boolean barrier, int group) {
        if (!isQueue(q)) {
            return BarrierDispatch.NOQUEUE;
        }
        if (group < -1 || group > 3) {
            return BarrierDispatch.NOGROUP;
        }
        if (items.size() == 160) {
            return BarrierDispatch.FULL;
        }
        Item item = accept(q, barrier);
        item.group = group;
        becomeQueued(item);
        return item.ticket;
    }

    int after(int q, long delay) {
        if (!isQueue(q)) {
            return BarrierDispatch.NOQUEUE;
        }
        if (items.size() == 160) {
            return BarrierDispatch.FULL;
        }
        Item item = accept(q, false);
        if (delay <= 0) {
            becomeQueued(item);
        } else {
            item.state = DELAYED;
            item.deadline = clock.add(BigInteger.valueOf(delay)).min(FOREVER);
        }
        return item.ticket;
    }

    int call(int caller, int q, boolean barrier) {
        if (!isItem(caller) || items.get(caller).state != RUNNING) {
            return BarrierDispatch.NOBLOCK;
        }
        if (!isQueue(q)) {
            return BarrierDispatch.NOQUEUE;
        }
        for (int x : chain(q)) {
            for (Item c = items.get(caller); x > 2 && c != null; c = c.caller) {
                if (passes(c, x) && (widths.get(x) == 1 || c.barrier && c.home == x || barrier && x == q)) {
                    return BarrierDispatch.DEADLOCK;
                }
            }
        }
        if (items.size() == 160) {
            return BarrierDispatch.FULL;
        }
        Item item = accept(q, barrier);
        item.caller = items.get(caller);
        item.caller.state = WAITING;
        becomeQueued(item);
        return item.ticket;
    }

    int whenDone(int group, int q) {
        if (!isGroup(group)) {
            return BarrierDispatch.NOGROUP;
        }
        if (!isQueue(q)) {
            return BarrierDispatch.NOQUEUE;
        }
        if (items.size() == 160) {
            return BarrierDispatch.FULL;
        }
        Item item = accept(q, false);
        if (count(group) == 0) {
            becomeQueued(item);
        } else {
            item.state = HELD;
            item.heldFor = group;
        }
        return item.ticket;
    }

    boolean enter(int group) {
        if (!isGroup(group) || entered[group] == 200) {
            return false;
        }
        entered[group]++;
        return true;
    }

    boolean leave(int group) {
        if (!isGroup(group) || entered[group] == 0) {
            return false;
        }
        entered[group]--;
        release(group);
        return true;
    }

    boolean cancel(int ticket) {
        if (!isItem(ticket) || items.get(ticket).state > QUEUED || items.get(ticket).cancelled) {
            return false;
        }
        items.get(ticket).cancelled = true;
        return true;
    }

    int hold(int q, boolean on) {
        if (!isQueue(q) || q < 3) {
            return BarrierDispatch.NOQUEUE;
        }
        if (on && holds[q] == 100) {
            return BarrierDispatch.FULL;
        }
        if (!on && holds[q] == 0) {
            return BarrierDispatch.IDLE;
        }
        holds[q] = on ? holds[q] + 1 : holds[q] - 1;
        return holds[q];
    }

    int begin() {
        while (true) {
            List<Item> able = new ArrayList<>();
            for (Item item : items) {
                if (mayStart(item)) {
                    able.add(item);
                }
            }
            if (able.isEmpty()) {
                return BarrierDispatch.IDLE;
            }
            able.sort(Comparator.comparingInt((Item item) -> -quality(item.home)).thenComparingInt(item -> item.place));
            Item chosen = able.get(0);
            if (!chosen.cancelled) {
                chosen.state = RUNNING;
                for (int q = 0; q < targets.size(); q++) {
                    peaks[q] = Math.max(peaks[q], through(q));
                }
                return chosen.ticket;
            }
            end(chosen, SKIPPED);
        }
    }

    boolean finish(int ticket) {
        if (!isItem(ticket) || items.get(ticket).state != RUNNING) {
            return false;
        }
        end(items.get(ticket), DONE);
        return true;
    }

    int advance(long span) {
        if (span < 0) {
            return BarrierDispatch.BAD;
        }
        clock = clock.add(BigInteger.valueOf(span)).min(FOREVER.subtract(BigInteger.ONE));
        List<Item> due = new ArrayList<>();
        for (Item item : items) {
            if (item.state == DELAYED && item.deadline.compareTo(clock) <= 0) {
                due.add(item);
            }
        }
        due.sort(Comparator.comparing((Item item) -> item.deadline).thenComparingInt(item -> item.ticket));
        for (Item item : due) {
            becomeQueued(item);
        }
        return due.size();
    }

    long now() {
        return clock.longValueExact();
    }

    int state(int ticket) {
        if (!isItem(ticket)) {
            return BarrierDispatch.NOBLOCK;
        }
        Item item = items.get(ticket);
        return item.state + (item.cancelled ? 8 : 0);
    }

    int queued(int q) {
        if (!isQueue(q)) {
            return BarrierDispatch.NOQUEUE;
        }
        return (int) items.stream().filter(item -> item.state == QUEUED && item.home == q).count();
    }

    int through(int q) {
        if (!isQueue(q)) {
            return BarrierDispatch.NOQUEUE;
        }
        return (int) items.stream().filter(item -> item.live() && passes(item, q)).count();
    }

    int peak(int q) {
        return isQueue(q) ? peaks[q] : BarrierDispatch.NOQUEUE;
    }

    int count(int group) {
        if (!isGroup(group)) {
            return BarrierDispatch.NOGROUP;
        }
        int members = (int) items.stream().filter(item -> item.group == group && item.state < DONE).count();
        return entered[group] + members;
    }

    int ready() {
        return (int) items.stream().filter(this::mayStart).count();
    }

    int blocks() {
        return items.size();
    }

    int queues() {
        return targets.size();
    }
}
