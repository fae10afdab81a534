/** Promise 21, ready: its edges (what may start: MayStartTest). */
public final class Promise21Test {
    private static final Due DUE = new Due();

    public static void main(String[] args) {
        noneOfNone();
        changesNothing();
        oneOfEachHome();
        cancelledOnesToo();
        noneWhenNoWorkerIsFree();
        DUE.end();
    }

    private static void noneOfNone() {
        DUE.part("promise 21: no block, or none that may start");
        NoChange none = new NoChange(DUE, 1, x -> { });
        none.is("ready()", 0, x -> x.ready());
        BarrierDispatch x = new BarrierDispatch(1);
        x.after(0, 1);
        DUE.is("DELAYED, ready()", 0, x.ready());
        x.enter(0);
        x.whenDone(0, 0);
        DUE.is("HELD, ready()", 0, x.ready());
        x.advance(1);
        DUE.is("QUEUED, ready()", 1, x.ready());
        x.begin();
        DUE.is("RUNNING, ready()", 0, x.ready());
        x.finish(0);
        DUE.is("DONE, ready()", 0, x.ready());
    }

    private static void changesNothing() {
        DUE.part("promise 21: it is a reading");
        NoChange mixed = new NoChange(DUE, Mixed.WORKERS, Mixed::set);
        mixed.is("ready()", 1, x -> x.ready());
        NoChange full = new NoChange(DUE, Mixed.WORKERS, Mixed::setFull);
        full.is("ready()", 2, x -> x.ready());
    }

    private static void oneOfEachHome() {
        DUE.part("promise 21: the number of blocks that may start, at most one of each home");
        BarrierDispatch x = new BarrierDispatch(1);
        Edges.makeQueues(x, 3, Edges.MOST_QUEUES);
        for (int q = 0; q <= 11; q++) {
            DUE.is("ready()", q, x.ready());
            x.submit(q, q % 2 == 1, -1);
            DUE.is("ready()", q + 1, x.ready());
            x.submit(q, false, -1);
            DUE.is("a second one of the same home, ready()", q + 1, x.ready());
        }
    }

    private static void cancelledOnesToo() {
        DUE.part("promise 21: a cancelled block may start too");
        BarrierDispatch x = new BarrierDispatch(1);
        x.submit(0, false, -1);
        x.submit(1, false, -1);
        x.cancel(0);
        DUE.is("ready()", 2, x.ready());
        x.begin();
        DUE.is("the worker is in use, ready()", 1, x.ready());
        x.begin();
        DUE.is("it is SKIPPED, ready()", 0, x.ready());
    }

    private static void noneWhenNoWorkerIsFree() {
        DUE.part("promise 21: many may start while one worker is free, none when none is");
        BarrierDispatch x = new BarrierDispatch(2);
        x.queue(0, 1);
        for (int q = 0; q <= 3; q++) {
            x.submit(q, false, -1);
        }
        DUE.is("two are free, ready()", 4, x.ready());
        x.begin();
        DUE.is("one is free, ready()", 3, x.ready());
        x.begin();
        DUE.is("none is free, ready()", 0, x.ready());
        x.finish(2);
        DUE.is("one is free, ready()", 2, x.ready());
    }
}
