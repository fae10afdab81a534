/** Promise 20, count: its edges, sentence by sentence. */
public final class Promise20Test {
    private static final Due DUE = new Due();
    private static final NoChange NEW = new NoChange(DUE, 2, x -> { });
    private static final NoChange MIXED = new NoChange(DUE, Mixed.WORKERS, Mixed::set);

    public static void main(String[] args) {
        countsOfTheMixedScene();
        membersInEachState();
        greatestCount();
        noGroup();
        DUE.end();
    }

    private static void countsOfTheMixedScene() {
        DUE.part("promise 20: the count of a group");
        int[] due = {2, 1, 2, 1};
        for (int group = 0; group < due.length; group++) {
            int asked = group;
            MIXED.is("count(" + group + ")", due[group], x -> x.count(asked));
            NEW.is("count(" + group + ")", 0, x -> x.count(asked));
        }
    }

    private static void membersInEachState() {
        DUE.part("promise 20: members that are neither DONE nor SKIPPED");
        BarrierDispatch x = new BarrierDispatch(1);
        DUE.is("none, count(0)", 0, x.count(0));
        x.submit(0, false, 0);
        DUE.is("QUEUED, count(0)", 1, x.count(0));
        x.begin();
        DUE.is("RUNNING, count(0)", 1, x.count(0));
        x.call(0, 0, false);
        DUE.is("WAITING, count(0)", 1, x.count(0));
        x.begin();
        x.finish(1);
        DUE.is("RUNNING again, count(0)", 1, x.count(0));
        x.finish(0);
        DUE.is("DONE, count(0)", 0, x.count(0));
        x.submit(0, false, 0);
        x.cancel(2);
        DUE.is("cancelled, count(0)", 1, x.count(0));
        x.begin();
        DUE.is("SKIPPED, count(0)", 0, x.count(0));
    }

    private static void greatestCount() {
        DUE.part("promise 20: its entered count and its members");
        BarrierDispatch x = new BarrierDispatch(1);
        for (int i = 0; i < 200; i++) {
            x.enter(3);
        }
        for (int i = 0; i < 160; i++) {
            x.submit(0, false, 3);
        }
        DUE.is("count(3)", 360, x.count(3));
        x.enter(3);
        x.submit(0, false, 3);
        DUE.is("after refused calls, count(3)", 360, x.count(3));
        DUE.is("count(2)", 0, x.count(2));
    }

    private static void noGroup() {
        DUE.part("promise 20: NOGROUP when group is not 0 .. 3");
        for (int group : Edges.NEVER_GROUPS) {
            NEW.is("count(" + group + ")", BarrierDispatch.NOGROUP, x -> x.count(group));
            MIXED.is("count(" + group + ")", BarrierDispatch.NOGROUP, x -> x.count(group));
        }
    }
}
