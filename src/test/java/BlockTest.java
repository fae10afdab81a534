/** Promises 4 submit, 10 cancel and 13 finish. */
public final class BlockTest {
    private static final Due DUE = new Due();

    public static void main(String[] args) {
        submitAccepts();
        submitRefusals();
        submitFull();
        submitToRoot();
        cancelMarks();
        cancelRefusals();
        cancelledNeedsNoWorker();
        cancelledIsBoundByTheRest();
        finishEnds();
        finishRefusals();
        DUE.end();
    }

    private static void submitAccepts() {
        DUE.part("promise 4, tickets");
        BarrierDispatch x = new BarrierDispatch(2);
        x.queue(0, 2);
        DUE.is("submit(3, false, -1)", 0, x.submit(3, false, -1));
        DUE.is("submit(0, true, 0)", 1, x.submit(0, true, 0));
        DUE.is("submit(3, true, 3)", 2, x.submit(3, true, 3));
        for (int ticket = 0; ticket < 3; ticket++) {
            DUE.is("state(" + ticket + ")", 2, x.state(ticket));
        }
        DUE.is("state(3)", BarrierDispatch.NOBLOCK, x.state(3));
        DUE.is("queued(3)", 2, x.queued(3));
        DUE.is("count(0)", 1, x.count(0));
        DUE.is("count(1)", 0, x.count(1));
        DUE.is("count(3)", 1, x.count(3));
        DUE.is("the first in the line begins first", 0, x.begin());
        DUE.is("a barrier waits for it", 1, x.begin());
        DUE.is("state(2)", 2, x.state(2));
    }

    private static void submitRefusals() {
        DUE.part("promise 4, refusals");
        BarrierDispatch x = new BarrierDispatch(2);
        DUE.is("queue 3", BarrierDispatch.NOQUEUE, x.submit(3, false, -1));
        DUE.is("queue -1", BarrierDispatch.NOQUEUE, x.submit(-1, false, 0));
        DUE.is("queue MAX and group 4", BarrierDispatch.NOQUEUE, x.submit(Integer.MAX_VALUE, true, 4));
        DUE.is("group 4", BarrierDispatch.NOGROUP, x.submit(0, false, 4));
        DUE.is("group -2", BarrierDispatch.NOGROUP, x.submit(0, false, -2));
        DUE.is("group MIN", BarrierDispatch.NOGROUP, x.submit(0, false, Integer.MIN_VALUE));
        DUE.is("state(0)", BarrierDispatch.NOBLOCK, x.state(0));
        DUE.is("ready()", 0, x.ready());
        DUE.is("the first ticket", 0, x.submit(0, false, -1));
    }

    private static void submitFull() {
        DUE.part("promise 4, full");
        BarrierDispatch x = new BarrierDispatch(2);
        for (int ticket = 0; ticket < 160; ticket++) {
            DUE.is("submit", ticket, x.submit(ticket % 3, false, 1));
        }
        DUE.is("one more", BarrierDispatch.FULL, x.submit(0, false, 1));
        DUE.is("no queue before full", BarrierDispatch.NOQUEUE, x.submit(3, false, 1));
        DUE.is("no group before full", BarrierDispatch.NOGROUP, x.submit(0, false, 4));
        DUE.is("state(159)", 2, x.state(159));
        DUE.is("state(160)", BarrierDispatch.NOBLOCK, x.state(160));
        DUE.no("cancel(160)", x.cancel(160));
        DUE.no("finish(160)", x.finish(160));
        DUE.is("call(160, 0, false)", BarrierDispatch.NOBLOCK, x.call(160, 0, false));
        DUE.is("count(1)", 160, x.count(1));
        DUE.is("queued(0)", 54, x.queued(0));
        DUE.is("begin()", 2, x.begin());
        DUE.yes("finish(2)", x.finish(2));
        DUE.is("a finished block makes no room", BarrierDispatch.FULL, x.submit(0, false, -1));
    }

    private static void submitToRoot() {
        DUE.part("promise 4, no barrier at a root");
        BarrierDispatch x = new BarrierDispatch(8);
        x.queue(1, 4);
        x.submit(1, false, -1);
        x.submit(1, true, -1);
        x.submit(1, false, -1);
        x.submit(3, false, -1);
        DUE.is("begin()", 0, x.begin());
        DUE.is("the root is not closed", 2, x.ready());
        DUE.is("begin(), it does not wait", 1, x.begin());
        DUE.is("begin(), nothing waits for it", 2, x.begin());
        DUE.is("begin(), nothing waits for it", 3, x.begin());
        DUE.is("through(1)", 4, x.through(1));
    }

    private static void cancelMarks() {
        DUE.part("promise 10, the mark");
        BarrierDispatch x = new BarrierDispatch(8);
        x.enter(0);
        x.submit(0, false, -1);
        x.after(0, 5);
        x.whenDone(0, 0);
        DUE.yes("a QUEUED block", x.cancel(0));
        DUE.yes("a DELAYED block", x.cancel(1));
        DUE.yes("a HELD block", x.cancel(2));
        DUE.is("state(0)", 10, x.state(0));
        DUE.is("state(1)", 9, x.state(1));
        DUE.is("state(2)", 8, x.state(2));
        for (int ticket = 0; ticket < 3; ticket++) {
            DUE.no("again", x.cancel(ticket));
        }
        DUE.is("queued(0)", 1, x.queued(0));
        DUE.is("advance(5)", 1, x.advance(5));
        DUE.yes("leave(0)", x.leave(0));
        DUE.is("state(1)", 10, x.state(1));
        DUE.is("state(2)", 10, x.state(2));
        DUE.is("queued(0)", 3, x.queued(0));
        DUE.is("begin() skips all three", BarrierDispatch.IDLE, x.begin());
        for (int ticket = 0; ticket < 3; ticket++) {
            DUE.is("SKIPPED and cancelled", 14, x.state(ticket));
        }
        DUE.is("peak(0)", 0, x.peak(0));
    }

    private static void cancelRefusals() {
        DUE.part("promise 10, refusals");
        BarrierDispatch x = new BarrierDispatch(8);
        DUE.no("cancel(0)", x.cancel(0));
        DUE.no("cancel(-1)", x.cancel(-1));
        DUE.no("cancel(MAX)", x.cancel(Integer.MAX_VALUE));
        x.submit(0, false, -1);
        x.begin();
        DUE.no("a RUNNING block", x.cancel(0));
        DUE.is("state(0)", 3, x.state(0));
        x.call(0, 0, false);
        DUE.no("a WAITING block", x.cancel(0));
        DUE.is("state(0)", 4, x.state(0));
        DUE.yes("the called block", x.cancel(1));
        x.begin();
        DUE.no("a SKIPPED block", x.cancel(1));
        x.finish(0);
        DUE.no("a DONE block", x.cancel(0));
        DUE.is("state(0)", 5, x.state(0));
        DUE.no("cancel(2)", x.cancel(2));
    }

    private static void cancelledNeedsNoWorker() {
        DUE.part("promise 10, no worker");
        BarrierDispatch x = new BarrierDispatch(1);
        x.submit(1, false, -1);
        x.submit(1, false, -1);
        x.submit(2, false, -1);
        x.begin();
        DUE.is("ready()", 0, x.ready());
        DUE.yes("cancel(0)", x.cancel(0));
        DUE.is("ready()", 1, x.ready());
        DUE.is("begin()", BarrierDispatch.IDLE, x.begin());
        DUE.is("state(0)", 14, x.state(0));
        DUE.is("state(1)", 2, x.state(1));
        DUE.is("through(1)", 0, x.through(1));
    }

    private static void cancelledIsBoundByTheRest() {
        DUE.part("promise 10, the other conditions");
        BarrierDispatch x = new BarrierDispatch(8);
        x.queue(0, 1);
        x.submit(3, false, -1);
        x.submit(3, false, -1);
        x.submit(3, false, -1);
        x.cancel(2);
        DUE.is("not the first in the line", 1, x.ready());
        x.begin();
        x.cancel(1);
        DUE.is("no room in the width", BarrierDispatch.IDLE, x.begin());
        DUE.is("state(1)", 10, x.state(1));
        x.finish(0);
        DUE.is("begin()", BarrierDispatch.IDLE, x.begin());
        DUE.is("state(1)", 14, x.state(1));
        DUE.is("state(2)", 14, x.state(2));

        BarrierDispatch y = new BarrierDispatch(8);
        y.queue(0, 4);
        y.queue(3, 4);
        y.submit(3, false, -1);
        y.begin();
        y.submit(3, true, -1);
        y.submit(4, false, -1);
        y.cancel(1);
        DUE.is("a cancelled barrier waits too, and closes its queue", BarrierDispatch.IDLE, y.begin());
        DUE.is("state(1)", 10, y.state(1));
        y.finish(0);
        DUE.is("it is skipped, and the next begins", 2, y.begin());
        DUE.is("state(1)", 14, y.state(1));
    }

    private static void finishEnds() {
        DUE.part("promise 13, the end");
        BarrierDispatch x = new BarrierDispatch(1);
        x.queue(0, 1);
        x.submit(3, true, 2);
        x.submit(3, false, -1);
        x.begin();
        DUE.is("ready()", 0, x.ready());
        DUE.yes("finish(0)", x.finish(0));
        DUE.is("state(0)", 5, x.state(0));
        DUE.is("count(2)", 0, x.count(2));
        DUE.is("through(3)", 0, x.through(3));
        DUE.is("through(0)", 0, x.through(0));
        DUE.is("the worker is free, the barrier gone", 1, x.begin());
        x.call(1, 2, false);
        x.begin();
        DUE.is("state(1)", 4, x.state(1));
        DUE.yes("finish(2)", x.finish(2));
        DUE.is("its caller is RUNNING", 3, x.state(1));
        DUE.is("it gave back no worker", 1, x.through(0));
        x.submit(2, false, -1);
        DUE.is("ready()", 0, x.ready());
        DUE.yes("finish(1)", x.finish(1));
        DUE.is("begin()", 3, x.begin());
    }

    private static void finishRefusals() {
        DUE.part("promise 13, refusals");
        BarrierDispatch x = new BarrierDispatch(8);
        DUE.no("finish(0)", x.finish(0));
        DUE.no("finish(-1)", x.finish(-1));
        DUE.no("finish(MIN)", x.finish(Integer.MIN_VALUE));
        x.enter(0);
        x.submit(0, false, -1);
        x.after(0, 5);
        x.whenDone(0, 0);
        for (int ticket = 0; ticket < 3; ticket++) {
            DUE.no("QUEUED, DELAYED, HELD", x.finish(ticket));
        }
        DUE.is("state(0)", 2, x.state(0));
        DUE.is("state(1)", 1, x.state(1));
        DUE.is("state(2)", 0, x.state(2));
        x.begin();
        x.call(0, 0, false);
        DUE.no("WAITING", x.finish(0));
        x.cancel(3);
        x.begin();
        DUE.no("SKIPPED", x.finish(3));
        DUE.yes("finish(0)", x.finish(0));
        DUE.no("DONE", x.finish(0));
        DUE.is("through(0)", 0, x.through(0));
        DUE.no("finish(4)", x.finish(4));
    }
}
