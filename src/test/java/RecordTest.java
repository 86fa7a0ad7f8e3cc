/** Promise 18, and RECORDS of the terms. */
final class RecordTest {
    public static void main(String[] args) {
        noSuchWhat();
        noneThatIsKept();
        howMany();
        whatARecordHolds();
        onlyWhenTheRunEnds();
        eachWayToEnd();
        greatestIsOfTheWholeRun();
        greatestIsOfTheGreaterSpeed();
        sixteenAreKept();
        dosesAreKept();
        Due.end();
    }

    private static final int[] FAR = {Integer.MIN_VALUE, Integer.MAX_VALUE};

    /** "IllegalArgumentException: no such what" */
    private static void noSuchWhat() {
        CentrifugeUnit x = Units.ended();
        for (int what : new int[] {-1, 3, FAR[0], FAR[1]}) {
            Due.refused("record(0, " + what + ")", Due.ARGUMENT, () -> x.record(0, what));
            Due.refused("record(7, " + what + ")", Due.ARGUMENT, () -> x.record(7, what));
            Due.refused("record(-1, " + what + ")", Due.ARGUMENT, () -> x.record(-1, what));
        }
    }

    /** "IndexOutOfBoundsException: there is none that is kept" */
    private static void noneThatIsKept() {
        CentrifugeUnit none = new CentrifugeUnit();
        CentrifugeUnit one = Units.ended();
        for (int what = 0; what < 3; what++) {
            int w = what;
            for (int k : new int[] {-2, 0, 1, 15, 16, FAR[0], FAR[1]}) {
                Due.refused("record(" + k + ", " + w + ") of none", Due.INDEX, () -> none.record(k, w));
            }
            for (int k : new int[] {-2, 1, 15, 16, FAR[0], FAR[1]}) {
                Due.refused("record(" + k + ", " + w + ") of one", Due.INDEX, () -> one.record(k, w));
            }
            Due.taken("record(0, " + w + ") of one", () -> one.record(0, w));
        }
    }

    /** "k -1: how many there were" */
    private static void howMany() {
        for (int what = 0; what < 3; what++) {
            Due.same("of none", new CentrifugeUnit().record(-1, what), 0);
            Due.same("of one", Units.ended().record(-1, what), 1);
        }
    }

    /** "the reason, the dose, the greatest used speed of the run" */
    private static void whatARecordHolds() {
        CentrifugeUnit x = Units.holding(3000);
        x.tick(100);
        Units.speed(x, 4000);
        x.tick(1);
        Units.speed(x, 1000);
        x.tick(1);
        x.stop();
        Units.speed(x, 0);
        x.tick(25);
        Due.same("reason", x.record(0, 0), 11);
        Due.same("dose", x.record(0, 1), 250L * (9_000_000 + 16_000_000 + 1_000_000));
        Due.same("greatest speed", x.record(0, 2), 4000);
        Units.started(x, 1, 1, 0);
        x.tick(1);
        Due.same("reason of the second", x.record(1, 0), 10);
        Due.same("dose of the second", x.record(1, 1), 0);
        Due.same("greatest speed of the second", x.record(1, 2), 0);
        Due.same("the first stays", x.record(0, 2), 4000);
    }

    /** "each time a run ends (IDLE comes ..)" */
    private static void onlyWhenTheRunEnds() {
        CentrifugeUnit x = Units.stopping();
        Units.speed(x, 0);
        x.tick(24);
        Due.same("none while it goes on", x.record(-1, 0), 0);
        x.tick(1);
        Due.same("one", x.record(-1, 0), 1);
        x.tick(100);
        Due.same("idle ticks add none", x.record(-1, 0), 1);
        x.start();
        Due.same("a start adds none", x.record(-1, 0), 1);
    }

    private static void endsWith(int reason, CentrifugeUnit x) {
        Units.speed(x, 0);
        Due.same("idle", x.tick(25), Units.IDLE);
        Due.same("how many", x.record(-1, 0), 1);
        Due.same("reason", x.record(0, 0), reason);
    }

    /** "(IDLE comes after RUNNING, STOPPING, FAULT)" */
    private static void eachWayToEnd() {
        endsWith(11, Units.stopping());
        endsWith(1, Units.faulty());
        CentrifugeUnit both = Units.stopping();
        both.bolt(false, false);
        both.tick(1);
        endsWith(1, both);
        CentrifugeUnit lost = Units.holding(1000);
        lost.tick(1);
        lost.power(false);
        lost.power(true);
        endsWith(12, lost);
        CentrifugeUnit through = Units.at(1000, 1, 1, 0);
        endsWith(10, through);
    }

    private static void greatestIsOfTheWholeRun() {
        CentrifugeUnit x = Units.withRotor();
        Units.speed(x, 20000);
        x.tick(5);
        Units.speed(x, 1000);
        Units.started(x, 1, 1, 0);
        x.tick(1);
        x.fail(1, 120);
        x.tick(1);
        x.bolt(false, false);
        x.tick(1);
        x.fail(1, 150);
        x.tick(1);
        Units.speed(x, 0);
        x.tick(25);
        Due.same("greatest speed, of the fault too, not of the time before", x.record(0, 2), 1500);
        Units.speed(x, 20000);
        x.tick(3);
        Due.same("nor of the time behind", x.record(0, 2), 1500);
    }

    private static void greatestIsOfTheGreaterSpeed() {
        for (int sensor = 0; sensor < 2; sensor++) {
            CentrifugeUnit x = Units.holding(1000);
            x.fail(sensor, sensor == 0 ? 1 : 1000000);
            x.tick(1);
            Units.speed(x, 0);
            x.tick(25);
            Due.same("100,000 at most", x.record(0, 2), 100000);
        }
    }

    /** "The latest 16 are kept." Run i was stopped or went through in turn, with a speed of 10 i. */
    private static void sixteenAreKept() {
        for (int total : new int[] {15, 16, 17, 18, 31, 32, 33, 34}) {
            CentrifugeUnit x = Units.withRotor();
            x.tick(25);
            for (int i = 0; i < total; i++) {
                run(x, i);
            }
            Due.same("how many", x.record(-1, 0), total);
            for (int k = 0; k <= total; k++) {
                kept(x, k, k < total && k >= total - 16);
            }
        }
    }

    private static void run(CentrifugeUnit x, int i) {
        Units.started(x, 1, 1 + i % 2, 0);
        x.fail(1, i);
        x.tick(1);
        x.fail(1, 0);
        if (i % 2 == 1) {
            x.stop();
        }
        x.tick(25);
    }

    private static void kept(CentrifugeUnit x, int k, boolean is) {
        long[] want = {k % 2 == 1 ? 11 : 10, 0, 10L * k};
        for (int what = 0; what < 3; what++) {
            int w = what;
            if (is) {
                Due.same("record(" + k + ", " + w + ")", x.record(k, w), want[w]);
            } else {
                Due.refused("record(" + k + ", " + w + ")", Due.INDEX, () -> x.record(k, w));
            }
        }
    }

    /** Run i of 20 has a dose of i + 1 ticks: those of the first four give way. */
    private static void dosesAreKept() {
        CentrifugeUnit x = Units.withRotor();
        x.segment(1, 100000, 0);
        for (int i = 0; i < 20; i++) {
            x.start();
            Units.speed(x, 3000);
            x.tick(100 + i);
            x.stop();
            Units.speed(x, 0);
            x.tick(25);
        }
        for (int k = 4; k < 20; k++) {
            Due.same("record(" + k + ", 1)", x.record(k, 1), (k + 1) * 250L * 9_000_000);
        }
        Due.refused("record(3, 1)", Due.INDEX, () -> x.record(3, 1));
    }
}
