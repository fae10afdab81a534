/** Promise 8, enter: its edges, sentence by sentence. */
public final class Promise08Test {
    private static final Due DUE = new Due();
    private static final NoChange NEW = new NoChange(DUE, 2, x -> { });
    private static final NoChange MIXED = new NoChange(DUE, Mixed.WORKERS, Mixed::set);

    public static void main(String[] args) {
        addsOne();
        noGroup();
        countOf200();
        membersAreNoEntries();
        DUE.end();
    }

    private static void enter(BarrierDispatch x, int group, int times) {
        for (int i = 0; i < times; i++) {
            x.enter(group);
        }
    }

    private static void addsOne() {
        DUE.part("promise 8: adds 1 to the entered count of a group");
        for (int group = 0; group <= 3; group++) {
            BarrierDispatch x = new BarrierDispatch(1);
            for (int entered = 1; entered <= 3; entered++) {
                DUE.yes("enter(" + group + ")", x.enter(group));
                for (int other = 0; other <= 3; other++) {
                    DUE.is("count(" + other + ")", other == group ? entered : 0, x.count(other));
                }
            }
        }
    }

    private static void noGroup() {
        DUE.part("promise 8: false when group is not 0 .. 3");
        for (int group : Edges.NEVER_GROUPS) {
            NEW.no("enter(" + group + ")", x -> x.enter(group));
            MIXED.no("enter(" + group + ")", x -> x.enter(group));
        }
    }

    private static void countOf200() {
        DUE.part("promise 8: false when its entered count is 200");
        for (int group = 0; group <= 3; group++) {
            BarrierDispatch x = new BarrierDispatch(1);
            enter(x, group, 198);
            DUE.yes("at 198, enter(" + group + ")", x.enter(group));
            DUE.yes("at 199, enter(" + group + ")", x.enter(group));
            DUE.is("count(" + group + ")", 200, x.count(group));
            DUE.no("at 200, enter(" + group + ")", x.enter(group));
            DUE.no("again, enter(" + group + ")", x.enter(group));
            DUE.is("count(" + group + ")", 200, x.count(group));
            DUE.yes("another group", x.enter((group + 1) % 4));
            x.leave(group);
            DUE.yes("at 199 again, enter(" + group + ")", x.enter(group));
            DUE.no("at 200 again, enter(" + group + ")", x.enter(group));
        }
        NoChange most = new NoChange(DUE, 2, x -> enter(x, 2, 200));
        most.no("at 200, enter(2)", x -> x.enter(2));
    }

    private static void membersAreNoEntries() {
        DUE.part("promise 8: the entered count is 200, whatever the members are");
        BarrierDispatch x = new BarrierDispatch(1);
        for (int ticket = 0; ticket < 160; ticket++) {
            x.submit(0, false, 1);
        }
        enter(x, 1, 199);
        DUE.is("count(1)", 359, x.count(1));
        DUE.yes("at 199, enter(1)", x.enter(1));
        DUE.is("count(1)", 360, x.count(1));
        DUE.no("at 200, enter(1)", x.enter(1));
        DUE.is("count(1)", 360, x.count(1));
    }
}
