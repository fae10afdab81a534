import java.util.ArrayList;
import java.util.List;
import java.util.function.Function;

/**
 * Rows of calls that bring out what an object holds, also what no reading tells: holds, targets,
 * deadlines, ages, callers, workers in use. Two objects that hold the same answer the same row.
 * Each row is short enough to follow a full object within the document's 512 calls.
 */
enum Probe {
    READINGS(Probe::readings), BEGINS(Probe::begins), RUN(Probe::run), LEAVES(Probe::leaves),
    CLOCK(Probe::clock), TREE(Probe::tree), ROOM(Probe::room), CALLERS(Probe::callers);

    private static final int FEW = 16;
    private static final int QUEUES = 12;

    private final Function<BarrierDispatch, List<Long>> row;

    Probe(Function<BarrierDispatch, List<Long>> row) {
        this.row = row;
    }

    List<Long> answers(BarrierDispatch x) {
        return row.apply(x);
    }

    private static List<Long> readings(BarrierDispatch x) {
        List<Long> answers = new ArrayList<>(List.of(x.now(), (long) x.ready()));
        for (int group = 0; group < 4; group++) {
            answers.add((long) x.count(group));
        }
        for (int q = 0; q < QUEUES; q++) {
            answers.add((long) x.queued(q));
            answers.add((long) x.through(q));
            answers.add((long) x.peak(q));
        }
        for (int ticket = 0; ticket < 160; ticket++) {
            answers.add((long) x.state(ticket));
        }
        return answers;
    }

    private static List<Long> begins(BarrierDispatch x) {
        List<Long> answers = new ArrayList<>();
        for (int i = 0; i < FEW; i++) {
            answers.add((long) x.begin());
        }
        for (int ticket = 0; ticket < FEW; ticket++) {
            answers.add((long) x.state(ticket));
        }
        return answers;
    }

    private static List<Long> run(BarrierDispatch x) {
        List<Long> answers = new ArrayList<>();
        for (int ticket = FEW; ticket >= 0; ticket--) {
            answers.add(x.finish(ticket) ? 1L : 0L);
        }
        for (int i = 0; i < 100; i++) {
            int ticket = x.begin();
            answers.add((long) ticket);
            answers.add(x.finish(ticket) ? 1L : 0L);
        }
        return answers;
    }

    private static List<Long> leaves(BarrierDispatch x) {
        List<Long> answers = new ArrayList<>();
        for (int group = 0; group < 4; group++) {
            long left = 0;
            while (left < 201 && x.leave(group)) {
                left++;
            }
            answers.add(left);
        }
        answers.addAll(begins(x));
        return answers;
    }

    private static List<Long> clock(BarrierDispatch x) {
        List<Long> answers = new ArrayList<>();
        for (int i = 0; i < FEW; i++) {
            answers.add((long) x.advance(1));
        }
        answers.add((long) x.advance(1000));
        answers.add((long) x.advance(BarrierDispatch.FOREVER));
        answers.add(x.now());
        answers.addAll(begins(x));
        return answers;
    }

    private static List<Long> tree(BarrierDispatch x) {
        List<Long> answers = new ArrayList<>();
        for (int q = 3; q < QUEUES; q++) {
            long taken = 0;
            while (taken < 101 && x.hold(q, false) >= 0) {
                taken++;
            }
            answers.add(taken);
        }
        // A target is told by the order of the begins and by the cycles that it would close.
        answers.addAll(begins(x));
        for (int q = 3; q < QUEUES; q++) {
            for (int target = QUEUES - 1; target >= 0; target--) {
                answers.add((long) x.retarget(q, target));
            }
        }
        for (int i = 0; i < QUEUES - 2; i++) {
            answers.add((long) x.queue(0, 1));
        }
        return answers;
    }

    private static List<Long> room(BarrierDispatch x) {
        List<Long> answers = new ArrayList<>();
        for (int q = 0; q < QUEUES; q++) {
            for (int i = 0; i < 9; i++) {
                answers.add((long) x.submit(q, false, i % 5 - 1));
            }
        }
        for (int i = 0; i < 40; i++) {
            answers.add((long) x.begin());
        }
        for (int q = 0; q < QUEUES; q++) {
            answers.add((long) x.through(q));
        }
        return answers;
    }

    private static List<Long> callers(BarrierDispatch x) {
        List<Long> answers = new ArrayList<>();
        for (int ticket = 0; ticket < FEW; ticket++) {
            for (int q = 0; q < QUEUES; q++) {
                answers.add((long) x.call(ticket, q, q % 2 == 0));
            }
        }
        answers.addAll(begins(x));
        return answers;
    }
}
