/** Promise 1, a new object: its edges, sentence by sentence. */
public final class Promise01Test {
    private static final Due DUE = new Due();

    public static void main(String[] args) {
        oneWorkerWhenLessThanOne();
        eightWorkersWhenMoreThanEight();
        soManyWorkersBetween();
        threeRootsAndNoOtherQueue();
        noBlock();
        nothingToTakeBack();
        objectsAreApart();
        DUE.end();
    }

    private static void oneWorkerWhenLessThanOne() {
        DUE.part("promise 1: 1 when workers is less than 1");
        int[] few = {Integer.MIN_VALUE, -Integer.MAX_VALUE, -8, -1, 0, 1};
        for (int workers : few) {
            hasWorkers(workers, 1);
        }
    }

    private static void eightWorkersWhenMoreThanEight() {
        DUE.part("promise 1: 8 when it is more than 8");
        int[] many = {8, 9, 10, 16, 160, Integer.MAX_VALUE - 1, Integer.MAX_VALUE};
        for (int workers : many) {
            hasWorkers(workers, 8);
        }
    }

    private static void soManyWorkersBetween() {
        DUE.part("promise 1: so many workers");
        for (int workers = 1; workers <= 8; workers++) {
            hasWorkers(workers, workers);
        }
    }

    private static void hasWorkers(int asked, int due) {
        BarrierDispatch x = new BarrierDispatch(asked);
        Edges.submitBlocks(x, 0, 10);
        for (int ticket = 0; ticket < due; ticket++) {
            DUE.is(asked + " workers, a worker is free: ready()", 1, x.ready());
            DUE.is(asked + " workers, begin()", ticket, x.begin());
        }
        DUE.is(asked + " workers, none is free: ready()", 0, x.ready());
        DUE.is(asked + " workers, none is free: begin()", BarrierDispatch.IDLE, x.begin());
        x.finish(0);
        DUE.is(asked + " workers, one is free again: begin()", due, x.begin());
        DUE.is(asked + " workers, and no other: begin()", BarrierDispatch.IDLE, x.begin());
    }

    private static void threeRootsAndNoOtherQueue() {
        DUE.part("promise 1: the three roots, no other queue");
        BarrierDispatch x = new BarrierDispatch(4);
        for (int q = -1; q <= 12; q++) {
            int due = q >= 0 && q <= 2 ? 0 : BarrierDispatch.NOQUEUE;
            DUE.is("queued(" + q + ")", due, x.queued(q));
            DUE.is("through(" + q + ")", due, x.through(q));
            DUE.is("peak(" + q + ")", due, x.peak(q));
            DUE.is("retarget(" + q + ", 0)", BarrierDispatch.NOQUEUE, x.retarget(q, 0));
            DUE.is("hold(" + q + ", true)", BarrierDispatch.NOQUEUE, x.hold(q, true));
        }
        DUE.is("the first queue of one's own", 3, x.queue(0, 1));
    }

    private static void noBlock() {
        DUE.part("promise 1: no block");
        BarrierDispatch x = new BarrierDispatch(4);
        for (int ticket = -1; ticket <= 1; ticket++) {
            DUE.is("state(" + ticket + ")", BarrierDispatch.NOBLOCK, x.state(ticket));
            DUE.is("call(" + ticket + ", 0, false)", BarrierDispatch.NOBLOCK, x.call(ticket, 0, false));
            DUE.no("cancel(" + ticket + ")", x.cancel(ticket));
            DUE.no("finish(" + ticket + ")", x.finish(ticket));
        }
        DUE.is("ready()", 0, x.ready());
        DUE.is("begin()", BarrierDispatch.IDLE, x.begin());
        DUE.is("advance(FOREVER)", 0, x.advance(BarrierDispatch.FOREVER));
        DUE.is("the first ticket", 0, x.submit(0, false, -1));
    }

    private static void nothingToTakeBack() {
        DUE.part("promise 1: the counts of a new object are 0");
        BarrierDispatch x = new BarrierDispatch(4);
        DUE.is("now()", 0, x.now());
        for (int group = 0; group < 4; group++) {
            DUE.is("count(" + group + ")", 0, x.count(group));
            DUE.no("leave(" + group + ")", x.leave(group));
        }
    }

    private static void objectsAreApart() {
        DUE.part("promise 1: a new object beside a used one");
        BarrierDispatch used = new BarrierDispatch(Mixed.WORKERS);
        Mixed.setFull(used);
        BarrierDispatch x = new BarrierDispatch(1);
        DUE.is("queued(3)", BarrierDispatch.NOQUEUE, x.queued(3));
        DUE.is("state(0)", BarrierDispatch.NOBLOCK, x.state(0));
        DUE.is("now()", 0, x.now());
        DUE.is("count(2)", 0, x.count(2));
        DUE.is("peak(2)", 0, x.peak(2));
        DUE.is("begin()", BarrierDispatch.IDLE, x.begin());
    }
}
