/**
 * LANGUAGE.md, rule 7: no call ever throws or fails to end, for any arguments in any state. The runs are
 * far longer than the 512 calls of which the document tells the answers, so only an end is looked for, and
 * answers that no call may give at any time.
 */
public final class AnyCallTest {
    private static final int RUNS = 200;
    private static final int CALLS = 4000;
    private static final int[] NUMBERS = {0, 1, 2, 3, 4, 5, 8, 11, 12, 13, 100, 159, 160, 161, 200,
        -1, -2, -3, -4, -9, Integer.MAX_VALUE, Integer.MAX_VALUE - 1, Integer.MIN_VALUE, Integer.MIN_VALUE + 1};
    private static final long[] SPANS = {0, 1, 2, 3, 10, 1000, -1, -1000, 1L << 31, 1L << 32, 1L << 62,
        BarrierDispatch.FOREVER, BarrierDispatch.FOREVER - 1, BarrierDispatch.FOREVER / 2, Long.MIN_VALUE};
    private static final Due DUE = new Due();
    private static long seed = 7L;

    public static void main(String[] args) {
        for (int run = 0; run < RUNS; run++) {
            DUE.part("any call, run " + run);
            BarrierDispatch x = new BarrierDispatch(someNumber());
            for (int i = 0; i < CALLS; i++) {
                int kind = below(40);
                long answer = kind < 20 ? change(x, kind) : often(x, kind);
                DUE.yes("kind " + kind + " answered " + answer, answer >= BarrierDispatch.BAD);
            }
            readings(x);
        }
        DUE.end();
    }

    private static int below(int bound) {
        seed = seed * 6364136223846793005L + 1442695040888963407L;
        return (int) ((seed >>> 33) % bound);
    }

    private static int someNumber() {
        return below(2) == 0 ? below(16) : NUMBERS[below(NUMBERS.length)];
    }

    private static int someTicket() {
        return below(2) == 0 ? below(160) : someNumber();
    }

    private static boolean someFlag() {
        return below(2) == 0;
    }

    private static long someSpan() {
        return SPANS[below(SPANS.length)];
    }

    private static long change(BarrierDispatch x, int kind) {
        return switch (kind) {
            case 0 -> x.queue(someNumber(), someNumber());
            case 1 -> x.retarget(someNumber(), someNumber());
            case 2 -> x.hold(someNumber(), someFlag());
            case 3 -> x.after(someNumber(), someSpan());
            case 4 -> x.advance(someSpan());
            case 5 -> x.whenDone(someNumber(), someNumber());
            case 6 -> x.enter(someNumber()) ? 1 : 0;
            case 7 -> x.leave(someNumber()) ? 1 : 0;
            case 8 -> x.cancel(someTicket()) ? 1 : 0;
            case 9 -> x.submit(someNumber(), someFlag(), someNumber());
            default -> reading(x, kind);
        };
    }

    private static long reading(BarrierDispatch x, int kind) {
        return switch (kind) {
            case 10 -> x.now();
            case 11 -> x.state(someTicket());
            case 12 -> x.queued(someNumber());
            case 13 -> x.through(someNumber());
            case 14 -> x.peak(someNumber());
            case 15 -> x.count(someNumber());
            default -> x.ready();
        };
    }

    private static long often(BarrierDispatch x, int kind) {
        if (kind < 28) {
            return x.begin();
        }
        return kind < 32 ? x.call(someTicket(), someNumber(), someFlag()) : x.finish(someTicket()) ? 1 : 0;
    }

    private static void readings(BarrierDispatch x) {
        for (int number : NUMBERS) {
            DUE.yes("state(" + number + ")", x.state(number) >= BarrierDispatch.NOBLOCK && x.state(number) <= 14);
            DUE.yes("queued(" + number + ")", x.queued(number) <= 160);
            DUE.yes("peak(" + number + ")", x.peak(number) >= x.through(number));
        }
        DUE.yes("now()", x.now() >= 0 && x.now() < BarrierDispatch.FOREVER);
        DUE.yes("ready()", x.ready() >= 0 && x.ready() <= 12);
    }
}
