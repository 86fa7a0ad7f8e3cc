import java.util.Random;

/** Whatever is called in whatever state: nothing but the document's exceptions, answers in their bounds. */
final class AnyCallsTest {
    private static final int RUNS = 5000;

    /** Each is followed by 14 looks: 512 in all. */
    private static final int CALLS = 34;

    public static void main(String[] args) {
        Random random = new Random(20261115L);
        for (int run = 0; run < RUNS; run++) {
            CentrifugeUnit x = new CentrifugeUnit();
            for (int call = 0; call < CALLS; call++) {
                callOne(x, random, run);
                looksAreInBounds(x, run);
            }
        }
        Due.end();
    }

    private static void callOne(CentrifugeUnit x, Random random, int run) {
        int kind = random.nextInt(22);
        try {
            callKind(x, random, kind);
        } catch (IllegalArgumentException | IllegalStateException | IndexOutOfBoundsException e) {
            Due.isTrue("run " + run + ", kind " + kind + ": only a throw of its own",
                    e.getStackTrace()[0].getClassName().equals("CentrifugeUnit"));
        }
    }

    private static void callKind(CentrifugeUnit x, Random random, int kind) {
        switch (kind) {
            case 0: x.rotor(some(random, 4), some(random, 9), some(random, 301), some(random, 20001), some(random, 1001)); break;
            case 1: x.put(some(random, 4)); break;
            case 2: case 3: x.segment(some(random, 5), some(random, 4000), some(random, 300)); break;
            case 4: case 5: case 6: x.start(); break;
            case 7: x.stop(); break;
            case 8: x.open(); break;
            case 9: x.bolt(random.nextInt(9) != 0, random.nextInt(9) == 0); break;
            case 10: x.shake(some(random, 400)); break;
            case 11: x.chamber(some(random, 4000)); break;
            case 12: x.fail(some(random, 2), random.nextInt(3) == 0 ? some(random, 400) : -1); break;
            case 13: x.power(random.nextBoolean()); break;
            case 14: x.look(some(random, 11)); break;
            case 15: x.record(some(random, 20), some(random, 3)); break;
            case 16: x.force(); break;
            default: x.tick(some(random, 300)); break;
        }
    }

    private static int some(Random random, int bound) {
        return random.nextInt(40) == 0 ? random.nextInt() : random.nextInt(bound + 1) - 1;
    }

    private static void looksAreInBounds(CentrifugeUnit x, int run) {
        int[] least = {0, 0, -1, 0, 0, 0, 0, 0, -1, 0, 0};
        int[] most = {3, 12, 11, 100, 9, 1, 100000, 100000, 3, 1, 100000};
        for (int what = 0; what < least.length; what++) {
            int got = x.look(what);
            Due.isTrue("run " + run + ", look(" + what + ") = " + got + " in its bounds", got >= least[what] && got <= most[what]);
        }
        Due.isTrue("run " + run + ", numbers are not below 0", x.dose() >= 0 && x.plant() >= 0 && x.force() >= 0);
    }
}
