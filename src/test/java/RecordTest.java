/** Promise 18. */
final class RecordTest {
    public static void main(String[] args) {
        edges();
        whatARecordHolds();
        greatestIsOfTheWholeRun();
        reasonIsTheLatestOne();
        sixteenAreKept();
        Due.end();
    }

    private static void edges() {
        CentrifugeUnit x = new CentrifugeUnit();
        Due.refused("record(0, 0) of none", Due.INDEX, () -> x.record(0, 0));
        x.tick(25);
        Units.shortRun(x);
        for (int what : new int[] {-1, 3, Integer.MIN_VALUE, Integer.MAX_VALUE}) {
            Due.refused("record(0, " + what + ")", Due.ARGUMENT, () -> x.record(0, what));
            Due.refused("record(7, " + what + ")", Due.ARGUMENT, () -> x.record(7, what));
            Due.refused("record(-1, " + what + ")", Due.ARGUMENT, () -> x.record(-1, what));
        }
        for (int k : new int[] {-2, 1, 16, Integer.MIN_VALUE, Integer.MAX_VALUE}) {
            Due.refused("record(" + k + ", 0)", Due.INDEX, () -> x.record(k, 0));
        }
        for (int what = 0; what < 3; what++) {
            Due.same("record(-1, " + what + ")", x.record(-1, what), 1);
        }
    }

    private static void whatARecordHolds() {
        CentrifugeUnit x = Units.holding(3000);
        x.tick(100);
        Units.speed(x, 4000);
        x.tick(1);
        Units.speed(x, 1000);
        x.tick(1);
        x.stop();
        Units.speed(x, 0);
        x.tick(24);
        Due.same("none while it goes on", x.record(-1, 0), 0);
        x.tick(1);
        Due.same("one", x.record(-1, 0), 1);
        Due.same("reason", x.record(0, 0), 11);
        Due.same("dose", x.record(0, 1), 250L * (9_000_000 + 16_000_000 + 1_000_000));
        Due.same("greatest speed", x.record(0, 2), 4000);
        Units.started(x, 1, 1, 0);
        x.tick(1);
        Due.same("reason of the second", x.record(1, 0), 10);
        Due.same("dose of the second", x.record(1, 1), 0);
        Due.same("greatest speed of the second", x.record(1, 2), 0);
        Due.same("the first stays", x.record(0, 2), 4000);
    }

    private static void greatestIsOfTheWholeRun() {
        CentrifugeUnit x = Units.withRotor();
        Units.speed(x, 20000);
        x.tick(5);
        Units.speed(x, 1000);
        Units.started(x, 1, 1, 0);
        x.tick(1);
        x.fail(1, 120);
        x.tick(1);
        x.bolt(false, false);
        x.tick(1);
        x.fail(1, 150);
        x.tick(1);
        Units.speed(x, 0);
        x.tick(25);
        Due.same("greatest speed, of the fault too, not of the time before", x.record(0, 2), 1500);
        Units.speed(x, 20000);
        x.tick(3);
        Due.same("nor of the time behind", x.record(0, 2), 1500);
    }

    private static void reasonIsTheLatestOne() {
        CentrifugeUnit x = Units.stopping();
        x.bolt(false, false);
        x.tick(1);
        Units.speed(x, 0);
        x.tick(25);
        Due.same("reason", x.record(0, 0), 1);
    }

    private static void sixteenAreKept() {
        CentrifugeUnit x = new CentrifugeUnit();
        x.tick(25);
        for (int i = 0; i < 40; i++) {
            Units.speed(x, 0);
            Units.started(x, 1, 1, 0);
            x.fail(1, i);
            x.tick(1);
            x.fail(1, 0);
            x.tick(25);
            Due.same("how many", x.record(-1, 0), i + 1);
            keptOnes(x, i + 1);
        }
    }

    private static void keptOnes(CentrifugeUnit x, int total) {
        for (int k = 0; k <= total; k++) {
            int at = k;
            if (k == total || k < total - 16) {
                Due.refused("record(" + k + ", 2) of " + total, Due.INDEX, () -> x.record(at, 2));
            } else {
                Due.same("record(" + k + ", 2) of " + total, x.record(k, 2), 10L * k);
            }
        }
    }
}
