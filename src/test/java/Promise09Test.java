/** Promise 9, leave: its edges, sentence by sentence. */
public final class Promise09Test {
    private static final Due DUE = new Due();
    private static final NoChange NEW = new NoChange(DUE, 2, x -> { });
    private static final NoChange MIXED = new NoChange(DUE, Mixed.WORKERS, Mixed::set);

    public static void main(String[] args) {
        takesOne();
        noGroup();
        countOfZero();
        membersAreNoEntries();
        theLastLeaveFreesTheHeld();
        theLastLeaveWithAnOpenMember();
        DUE.end();
    }

    private static void takesOne() {
        DUE.part("promise 9: takes 1 from the entered count of a group");
        for (int group = 0; group <= 3; group++) {
            BarrierDispatch x = new BarrierDispatch(1);
            for (int i = 0; i < 200; i++) {
                x.enter(group);
            }
            x.enter((group + 1) % 4);
            DUE.yes("at 200, leave(" + group + ")", x.leave(group));
            DUE.is("count(" + group + ")", 199, x.count(group));
            for (int entered = 199; entered > 0; entered--) {
                DUE.yes("at " + entered + ", leave(" + group + ")", x.leave(group));
            }
            DUE.is("count(" + group + ")", 0, x.count(group));
            DUE.no("at 0, leave(" + group + ")", x.leave(group));
            DUE.is("another group", 1, x.count((group + 1) % 4));
        }
    }

    private static void noGroup() {
        DUE.part("promise 9: false when group is not 0 .. 3");
        for (int group : Edges.NEVER_GROUPS) {
            NEW.no("leave(" + group + ")", x -> x.leave(group));
            MIXED.no("leave(" + group + ")", x -> x.leave(group));
        }
    }

    private static void countOfZero() {
        DUE.part("promise 9: false when its entered count is 0");
        for (int group = 0; group <= 3; group++) {
            int left = group;
            NEW.no("leave(" + group + ")", x -> x.leave(left));
            BarrierDispatch x = new BarrierDispatch(1);
            x.enter(group);
            DUE.yes("at 1, leave(" + group + ")", x.leave(group));
            DUE.no("at 0, leave(" + group + ")", x.leave(group));
            x.enter(group);
            x.enter(group);
            DUE.yes("at 2, leave(" + group + ")", x.leave(group));
            DUE.is("count(" + group + ")", 1, x.count(group));
        }
    }

    private static void membersAreNoEntries() {
        DUE.part("promise 9: false when its entered count is 0, whatever the members are");
        MIXED.no("members that are open, leave(0)", x -> x.leave(0));
        MIXED.no("members of which two have ended, leave(1)", x -> x.leave(1));
        MIXED.no("a cancelled member, leave(3)", x -> x.leave(3));
        NoChange held = new NoChange(DUE, 2, x -> {
            x.submit(0, false, 2);
            x.whenDone(2, 1);
        });
        held.no("a member and a HELD block, leave(2)", x -> x.leave(2));
    }

    private static void theLastLeaveFreesTheHeld() {
        DUE.part("promise 9: the count has become 0 by leave");
        BarrierDispatch x = new BarrierDispatch(8);
        x.enter(0);
        x.enter(0);
        x.whenDone(0, 0);
        DUE.yes("from 2 to 1", x.leave(0));
        DUE.is("state(0)", 0, x.state(0));
        DUE.yes("from 1 to 0", x.leave(0));
        DUE.is("state(0)", 2, x.state(0));
        x.enter(0);
        x.whenDone(0, 0);
        DUE.no("another group's refused leave", x.leave(1));
        DUE.is("state(1)", 0, x.state(1));
        x.enter(1);
        DUE.yes("another group's last leave", x.leave(1));
        DUE.is("state(1)", 0, x.state(1));
    }

    private static void theLastLeaveWithAnOpenMember() {
        DUE.part("promise 9: the entered count is 0, but the count is not");
        BarrierDispatch x = new BarrierDispatch(8);
        x.submit(0, false, 0);
        x.enter(0);
        x.whenDone(0, 1);
        DUE.yes("leave(0)", x.leave(0));
        DUE.is("count(0)", 1, x.count(0));
        DUE.is("state(1)", 0, x.state(1));
        DUE.no("leave(0)", x.leave(0));
        DUE.is("state(1)", 0, x.state(1));
        x.begin();
        x.finish(0);
        DUE.is("the member is DONE, state(1)", 2, x.state(1));
    }
}
