/** Promise 16. */
final class ForceTest {
    public static void main(String[] args) {
        noneBeforeTheReading();
        usedIsTheGreaterSpeed();
        truncated();
        greatest();
        asTheLatestTickSawIt();
        Due.end();
    }

    /** "the radius (of the rotor read; 0 before)" */
    private static void noneBeforeTheReading() {
        Due.same("force() of a new one", new CentrifugeUnit().force(), 0);
        CentrifugeUnit x = Units.holding(3000);
        x.tick(99);
        Due.same("force() before the reading", x.force(), 0);
        x.tick(1);
        Due.same("force() at 3,000", x.force(), 2_515_500);
    }

    private static CentrifugeUnit read(int radius) {
        CentrifugeUnit x = new CentrifugeUnit();
        x.rotor(0, 7, radius, 20000, 50);
        x.put(0);
        Units.speed(x, 3000);
        Units.started(x, 1, 100000, 0);
        x.tick(100);
        return x;
    }

    /** "Thousandths of g at the used speed" */
    private static void usedIsTheGreaterSpeed() {
        CentrifugeUnit x = read(250);
        x.fail(0, 7000);
        x.fail(1, 0);
        x.tick(1);
        Due.same("force() at 8,571 of the tacho", x.force(), 1118L * 250 * 8571 * 8571 / 1_000_000);
        x.fail(1, 900);
        x.tick(1);
        Due.same("force() at 9,000 of the commutator", x.force(), 1118L * 250 * 81);
    }

    /** "over 1,000,000" */
    private static void truncated() {
        CentrifugeUnit x = read(250);
        x.fail(0, 0);
        x.fail(1, 1);
        x.tick(1);
        Due.same("27.95 at 10", x.force(), 27);
        CentrifugeUnit y = read(10);
        Units.speed(y, 0);
        y.fail(1, 1);
        y.tick(1);
        Due.same("1.118 at 10", y.force(), 1);
        Units.speed(y, 0);
        y.tick(1);
        Due.same("0 at 0", y.force(), 0);
    }

    private static void greatest() {
        CentrifugeUnit x = read(300);
        x.fail(0, 1);
        Due.same("a fault", x.tick(1), Units.FAULT);
        Due.same("force() at 100,000", x.force(), 3_354_000_000L);
    }

    private static void asTheLatestTickSawIt() {
        CentrifugeUnit x = read(250);
        Units.speed(x, 1000);
        Due.same("no tick yet", x.force(), 2_515_500);
        x.tick(1);
        Due.same("force() at 1,000", x.force(), 279_500);
        x.power(false);
        Units.speed(x, 2000);
        x.tick(1);
        Due.same("without power no sensor is read", x.force(), 279_500);
    }
}
