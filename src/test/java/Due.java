import java.util.List;

/** Counts the answers that are not as due, and ends a test with exit code 1 if there was one. */
final class Due {
    private static final long SECONDS = 300;

    private int wrong;
    private volatile String part = "";

    Due() {
        Thread watch = new Thread(this::endIfACallDoesNot);
        watch.setDaemon(true);
        watch.start();
    }

    private void endIfACallDoesNot() {
        try {
            Thread.sleep(SECONDS * 1000);
        } catch (InterruptedException interrupted) {
            return;
        }
        System.out.println(part + ": no end after " + SECONDS + " seconds");
        Runtime.getRuntime().halt(1);
    }

    void part(String name) {
        part = name;
    }

    void is(String call, long want, long got) {
        if (want != got) {
            tell(call, String.valueOf(want), String.valueOf(got));
        }
    }

    void yes(String call, boolean got) {
        is(call, 1, got ? 1 : 0);
    }

    void no(String call, boolean got) {
        is(call, 0, got ? 1 : 0);
    }

    void same(String calls, List<Long> want, List<Long> got) {
        if (!want.equals(got)) {
            tell(calls, want.toString(), got.toString());
        }
    }

    /** That these blocks begin, in this order, and then no other. */
    void begins(BarrierDispatch x, int... tickets) {
        for (int ticket : tickets) {
            is("begin()", ticket, x.begin());
        }
        is("begin() at last", BarrierDispatch.IDLE, x.begin());
    }

    private void tell(String call, String want, String got) {
        wrong++;
        System.out.println(part + ": " + call + " answered " + got + ", due is " + want);
    }

    void end() {
        System.out.println(wrong == 0 ? "all answers are as due" : wrong + " answers are not as due");
        if (wrong != 0) {
            System.exit(1);
        }
    }
}
