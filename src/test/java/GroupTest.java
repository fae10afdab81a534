/** Promises 7 whenDone, 8 enter, 9 leave and 20 count. */
public final class GroupTest {
    private static final Due DUE = new Due();

    public static void main(String[] args) {
        whenDoneAtOnce();
        whenDoneByLeave();
        whenDoneByFinish();
        whenDoneBySkip();
        whenDoneRefusals();
        enterCounts();
        leaveCounts();
        countOfMembers();
        DUE.end();
    }

    private static void whenDoneAtOnce() {
        DUE.part("promise 7, at once");
        BarrierDispatch x = new BarrierDispatch(2);
        x.enter(1);
        DUE.is("whenDone(0, 2)", 0, x.whenDone(0, 2));
        DUE.is("state(0)", 2, x.state(0));
        DUE.is("count(0), it is no member", 0, x.count(0));
        DUE.is("whenDone(1, 2)", 1, x.whenDone(1, 2));
        DUE.is("state(1)", 0, x.state(1));
        DUE.is("count(1)", 1, x.count(1));
        DUE.is("queued(2)", 1, x.queued(2));
        DUE.is("ready()", 1, x.ready());
    }

    private static void whenDoneByLeave() {
        DUE.part("promise 7, by leave");
        BarrierDispatch x = new BarrierDispatch(8);
        x.enter(1);
        x.enter(1);
        x.enter(2);
        x.whenDone(1, 0);
        x.whenDone(2, 0);
        x.whenDone(1, 0);
        x.submit(0, false, -1);
        DUE.yes("leave(1)", x.leave(1));
        DUE.is("state(0)", 0, x.state(0));
        DUE.yes("leave(1)", x.leave(1));
        DUE.is("state(0)", 2, x.state(0));
        DUE.is("state(1)", 0, x.state(1));
        DUE.is("state(2)", 2, x.state(2));
        DUE.is("the one that was QUEUED first", 3, x.begin());
        DUE.is("in the order of the tickets", 0, x.begin());
        DUE.is("in the order of the tickets", 2, x.begin());
        DUE.is("begin()", BarrierDispatch.IDLE, x.begin());
        DUE.yes("leave(2)", x.leave(2));
        DUE.is("begin()", 1, x.begin());
    }

    private static void whenDoneByFinish() {
        DUE.part("promise 7, by finish");
        BarrierDispatch x = new BarrierDispatch(8);
        x.submit(0, false, 3);
        x.submit(0, false, 3);
        x.enter(3);
        x.whenDone(3, 1);
        x.begin();
        x.begin();
        x.finish(1);
        DUE.is("state(2)", 0, x.state(2));
        x.finish(0);
        DUE.is("the group is still entered", 0, x.state(2));
        x.leave(3);
        DUE.is("state(2)", 2, x.state(2));
        x.submit(0, false, 3);
        x.whenDone(3, 1);
        DUE.is("the group is used again", 0, x.state(4));
        x.begin();
        DUE.is("begin()", 3, x.begin());
        x.call(3, 0, false);
        DUE.is("a WAITING member counts", 1, x.count(3));
        x.begin();
        x.finish(5);
        DUE.is("state(4)", 0, x.state(4));
        x.finish(3);
        DUE.is("state(4)", 2, x.state(4));
        DUE.is("count(3)", 0, x.count(3));
    }

    private static void whenDoneBySkip() {
        DUE.part("promise 7, by a skip");
        BarrierDispatch x = new BarrierDispatch(1);
        x.submit(0, false, 0);
        x.whenDone(0, 2);
        x.submit(0, false, -1);
        x.cancel(0);
        DUE.is("count(0): cancelled is not yet skipped", 1, x.count(0));
        DUE.is("begin() chooses again from the beginning", 1, x.begin());
        DUE.is("state(0)", 14, x.state(0));
        DUE.is("count(0)", 0, x.count(0));
        DUE.is("state(2)", 2, x.state(2));
    }

    private static void whenDoneRefusals() {
        DUE.part("promise 7, refusals");
        BarrierDispatch x = new BarrierDispatch(1);
        DUE.is("whenDone(-1, 0)", BarrierDispatch.NOGROUP, x.whenDone(-1, 0));
        DUE.is("whenDone(4, 0)", BarrierDispatch.NOGROUP, x.whenDone(4, 0));
        DUE.is("whenDone(MAX, 3)", BarrierDispatch.NOGROUP, x.whenDone(Integer.MAX_VALUE, 3));
        DUE.is("whenDone(0, 3)", BarrierDispatch.NOQUEUE, x.whenDone(0, 3));
        DUE.is("whenDone(3, -1)", BarrierDispatch.NOQUEUE, x.whenDone(3, -1));
        DUE.is("state(0)", BarrierDispatch.NOBLOCK, x.state(0));
        for (int ticket = 0; ticket < 160; ticket++) {
            DUE.is("whenDone", ticket, x.whenDone(ticket % 4, 0));
        }
        DUE.is("one more", BarrierDispatch.FULL, x.whenDone(0, 0));
        x.enter(0);
        DUE.is("one more to be HELD", BarrierDispatch.FULL, x.whenDone(0, 0));
        DUE.is("NOGROUP comes before FULL", BarrierDispatch.NOGROUP, x.whenDone(4, 3));
        DUE.is("NOQUEUE comes before FULL", BarrierDispatch.NOQUEUE, x.whenDone(0, 3));
    }

    private static void enterCounts() {
        DUE.part("promise 8");
        BarrierDispatch x = new BarrierDispatch(1);
        x.submit(0, false, 2);
        for (int entered = 1; entered <= 200; entered++) {
            DUE.yes("enter(2)", x.enter(2));
        }
        DUE.is("count(2)", 201, x.count(2));
        DUE.no("one more", x.enter(2));
        DUE.is("count(2)", 201, x.count(2));
        DUE.is("count(1)", 0, x.count(1));
        DUE.yes("enter(0)", x.enter(0));
        DUE.yes("enter(3)", x.enter(3));
        DUE.yes("leave(2)", x.leave(2));
        DUE.yes("enter(2)", x.enter(2));
        int[] wrong = {-1, -2, 4, Integer.MIN_VALUE, Integer.MAX_VALUE};
        for (int group : wrong) {
            DUE.no("enter(" + group + ")", x.enter(group));
        }
    }

    private static void leaveCounts() {
        DUE.part("promise 9");
        BarrierDispatch x = new BarrierDispatch(1);
        x.submit(0, false, 0);
        x.whenDone(0, 0);
        DUE.no("a member is no entry", x.leave(0));
        DUE.is("count(0)", 1, x.count(0));
        x.enter(0);
        x.enter(0);
        DUE.no("leave(1)", x.leave(1));
        DUE.yes("leave(0)", x.leave(0));
        DUE.is("count(0)", 2, x.count(0));
        DUE.yes("leave(0)", x.leave(0));
        DUE.no("leave(0)", x.leave(0));
        DUE.is("count(0)", 1, x.count(0));
        DUE.is("state(1)", 0, x.state(1));
        int[] wrong = {-1, -2, 4, Integer.MIN_VALUE, Integer.MAX_VALUE};
        for (int group : wrong) {
            DUE.no("leave(" + group + ")", x.leave(group));
        }
    }

    private static void countOfMembers() {
        DUE.part("promise 20");
        BarrierDispatch x = new BarrierDispatch(1);
        for (int group = 0; group < 4; group++) {
            for (int i = 0; i <= group; i++) {
                x.submit(0, false, group);
            }
            DUE.is("count(" + group + ")", group + 1, x.count(group));
        }
        x.enter(3);
        DUE.is("count(3)", 5, x.count(3));
        x.begin();
        DUE.is("a RUNNING member counts", 1, x.count(0));
        x.finish(0);
        DUE.is("a DONE member does not", 0, x.count(0));
        x.cancel(1);
        x.begin();
        DUE.is("a SKIPPED member does not", 1, x.count(1));
        int[] wrong = {-1, -2, 4, Integer.MIN_VALUE, Integer.MAX_VALUE};
        for (int group : wrong) {
            DUE.is("count(" + group + ")", BarrierDispatch.NOGROUP, x.count(group));
        }
    }
}
