/** Promise 4, and the PROGRAM of the terms. */
final class SegmentTest {
    private static final int[] FAR = {Integer.MIN_VALUE, Integer.MAX_VALUE};

    public static void main(String[] args) {
        kindIsOneOfFive();
        ramp();
        holdForTicks();
        holdForADose();
        brake();
        pause();
        numbersThatAKindHasNot();
        answersHowMany();
        twelveAtMost();
        fullOneIsEmptied();
        emptyOneIsEmptied();
        notIdle();
        noPower();
        argumentsComeFirst();
        keptFromRunToRun();
        Due.end();
    }

    private static void said(int kind, int a, int b, Class<?> want) {
        CentrifugeUnit x = new CentrifugeUnit();
        Due.refused("segment(" + kind + ", " + a + ", " + b + ")", want, () -> x.segment(kind, a, b));
        Due.same("how many behind it", x.segment(1, 1, 0), want == null ? 2 : 1);
    }

    /** "IllegalArgumentException: kind .. not so" */
    private static void kindIsOneOfFive() {
        for (int kind : new int[] {0, 1, 2, 3, 4}) {
            said(kind, 1, 1, null);
        }
        for (int kind : new int[] {-2, 5, Integer.MIN_VALUE, Integer.MAX_VALUE}) {
            said(kind, 1, 1, Due.ARGUMENT);
        }
    }

    private static void bounds(int kind, int least, int most, int b) {
        said(kind, least, b, null);
        said(kind, most, b, null);
        said(kind, least - 1, b, Due.ARGUMENT);
        said(kind, most + 1, b, Due.ARGUMENT);
        for (int a : FAR) {
            said(kind, a, b, Due.ARGUMENT);
        }
    }

    private static void secondBounds(int kind, int a, int most) {
        said(kind, a, 1, null);
        said(kind, a, most, null);
        said(kind, a, 0, Due.ARGUMENT);
        said(kind, a, -1, Due.ARGUMENT);
        said(kind, a, most + 1, Due.ARGUMENT);
        for (int b : FAR) {
            said(kind, a, b, Due.ARGUMENT);
        }
    }

    /** "0 RAMP to a speed a (0 .. 20,000) by a slope b (1 .. 500 a tick)" */
    private static void ramp() {
        bounds(0, 0, 20000, 1);
        secondBounds(0, 100, 500);
    }

    /** "1 HOLD for a ticks (1 .. 100,000)" */
    private static void holdForTicks() {
        bounds(1, 1, 100000, 0);
    }

    /** "2 HOLD until the DOSE is a thousand millions or more (a 1 .. 1,000,000)" */
    private static void holdForADose() {
        bounds(2, 1, 1000000, 0);
    }

    /** "3 BRAKE with strength b (1 .. 9) until the used speed is a or less (0 .. 20,000)" */
    private static void brake() {
        bounds(3, 0, 20000, 1);
        secondBounds(3, 100, 9);
    }

    /** "4 PAUSE until the chamber is at a or colder (-2,000 .. 4,000" */
    private static void pause() {
        bounds(4, -2000, 4000, 0);
    }

    /** "(those that its kind has not are not looked at)" */
    private static void numbersThatAKindHasNot() {
        for (int b : new int[] {Integer.MIN_VALUE, -1, 0, 10, 501, Integer.MAX_VALUE}) {
            said(1, 1, b, null);
            said(2, 1, b, null);
            said(4, 1, b, null);
            Due.same("segment(-1, b, b)", new CentrifugeUnit().segment(-1, b, b), 0);
        }
    }

    /** "One more segment; .. : how many" */
    private static void answersHowMany() {
        CentrifugeUnit x = new CentrifugeUnit();
        for (int i = 1; i <= 12; i++) {
            Due.same("segment " + i, x.segment(i % 5, 1, 1), i);
        }
    }

    private static CentrifugeUnit full() {
        CentrifugeUnit x = Units.withRotor();
        for (int i = 1; i <= 12; i++) {
            x.segment(1, 1, 0);
        }
        return x;
    }

    /** "a row of up to 12 SEGMENTS"; "IllegalStateException: .. or there are 12" */
    private static void twelveAtMost() {
        CentrifugeUnit x = full();
        for (int kind = 0; kind < 5; kind++) {
            int one = kind;
            Due.refused("a 13th of kind " + kind, Due.STATE, () -> x.segment(one, 1, 1));
        }
        Due.refused("a 13th that is wrong", Due.ARGUMENT, () -> x.segment(1, 0, 0));
        x.start();
        Due.same("12 ticks of 12 segments", x.tick(12), Units.STOPPING);
    }

    /** "kind -1: the program is empty", with 12 too */
    private static void fullOneIsEmptied() {
        CentrifugeUnit x = full();
        Due.same("segment(-1, 0, 0)", x.segment(-1, 0, 0), 0);
        Due.refused("start() with an emptied program", Due.STATE, x::start);
        Due.same("one again", x.segment(1, 1, 0), 1);
        Due.taken("start()", x::start);
        Due.same("one tick of one segment", x.tick(1), Units.STOPPING);
    }

    private static void emptyOneIsEmptied() {
        CentrifugeUnit x = new CentrifugeUnit();
        Due.same("segment(-1, 0, 0) of none", x.segment(-1, 0, 0), 0);
        Due.same("and again", x.segment(-1, 0, 0), 0);
        Due.same("one", x.segment(1, 1, 0), 1);
    }

    /** "IllegalStateException: not IDLE" */
    private static void notIdle() {
        for (CentrifugeUnit x : new CentrifugeUnit[] {Units.holding(1000), Units.stopping(), Units.faulty()}) {
            Due.refused("segment(1, 1, 0)", Due.STATE, () -> x.segment(1, 1, 0));
            Due.refused("segment(-1, 0, 0)", Due.STATE, () -> x.segment(-1, 0, 0));
        }
    }

    /** "IllegalStateException: .. no power" */
    private static void noPower() {
        CentrifugeUnit x = Units.unpowered();
        Due.refused("segment(1, 1, 0)", Due.STATE, () -> x.segment(1, 1, 0));
        Due.refused("segment(-1, 0, 0)", Due.STATE, () -> x.segment(-1, 0, 0));
        x.power(true);
        Due.same("with power again", x.segment(1, 1, 0), 2);
    }

    private static void argumentsComeFirst() {
        for (CentrifugeUnit x : new CentrifugeUnit[] {Units.holding(1000), Units.unpowered()}) {
            Due.refused("a wrong kind in a wrong state", Due.ARGUMENT, () -> x.segment(9, 1, 0));
            Due.refused("a wrong number in a wrong state", Due.ARGUMENT, () -> x.segment(1, 0, 0));
        }
    }

    private static void keptFromRunToRun() {
        CentrifugeUnit x = Units.withRotor();
        x.tick(25);
        Units.shortRun(x);
        Due.same("one more", x.segment(1, 7, 0), 2);
        x.start();
        x.tick(1);
        Due.same("at the second one", x.look(Units.SEGMENT), 1);
    }
}
