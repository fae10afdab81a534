/** Counts the answers that are not as due, and ends a test with exit code 1 if there was one. */
final class Due {
    private int wrong;
    private String part = "";

    void part(String name) {
        part = name;
    }

    void is(String call, long want, long got) {
        if (want != got) {
            wrong++;
            System.out.println(part + ": " + call + " answered " + got + ", due is " + want);
        }
    }

    void yes(String call, boolean got) {
        is(call, 1, got ? 1 : 0);
    }

    void no(String call, boolean got) {
        is(call, 0, got ? 1 : 0);
    }

    void end() {
        System.out.println(wrong == 0 ? "all answers are as due" : wrong + " answers are not as due");
        if (wrong != 0) {
            System.exit(1);
        }
    }
}
