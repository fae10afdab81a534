/** Promise 15, now: its edges. */
public final class Promise15Test {
    private static final long FOREVER = BarrierDispatch.FOREVER;
    private static final Due DUE = new Due();

    public static void main(String[] args) {
        atFirstZero();
        atMostOneBeforeForever();
        movedByAdvanceAlone();
        DUE.end();
    }

    private static void atFirstZero() {
        DUE.part("promise 15: the clock is at first 0");
        NoChange none = new NoChange(DUE, 1, x -> { });
        none.is("now()", 0, x -> x.now());
        NoChange mixed = new NoChange(DUE, Mixed.WORKERS, Mixed::set);
        mixed.is("now()", 1, x -> x.now());
    }

    private static void atMostOneBeforeForever() {
        DUE.part("promise 15: the clock is at most FOREVER - 1");
        BarrierDispatch x = new BarrierDispatch(1);
        x.advance(FOREVER - 2);
        DUE.is("now()", FOREVER - 2, x.now());
        for (int i = 0; i < 5; i++) {
            x.advance(1);
            DUE.is("now()", FOREVER - 1, x.now());
        }
        x.advance(FOREVER);
        DUE.is("now()", FOREVER - 1, x.now());
        x.advance(-1);
        x.advance(Long.MIN_VALUE);
        DUE.is("after refused calls, now()", FOREVER - 1, x.now());
    }

    private static void movedByAdvanceAlone() {
        DUE.part("promise 15: nothing else moves the clock");
        BarrierDispatch x = new BarrierDispatch(2);
        x.advance(7);
        x.after(0, 5);
        x.submit(0, false, 0);
        x.whenDone(0, 0);
        x.begin();
        x.call(1, 1, false);
        x.begin();
        x.finish(3);
        x.finish(1);
        x.begin();
        DUE.is("now()", 7, x.now());
    }
}
