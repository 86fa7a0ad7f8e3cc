/** Promises 15, 16 and 17. */
final class NumbersTest {
    public static void main(String[] args) {
        dose();
        force();
        plant();
        Due.end();
    }

    private static void dose() {
        CentrifugeUnit x = new CentrifugeUnit();
        x.rotor(0, 7, 300, 20000, 50);
        x.put(0);
        Units.speed(x, 3000);
        Units.started(x, 1, 100000, 0);
        x.tick(99);
        Due.same("dose() before the reading", x.dose(), 0);
        x.tick(1);
        Due.same("dose() with the reading", x.dose(), 300L * 9_000_000);
        Units.speed(x, 20000);
        x.tick(2000);
        Due.same("a great dose()", x.dose(), 300L * 9_000_000 + 2000 * 300L * 400_000_000);
    }

    private static void force() {
        CentrifugeUnit x = Units.holding(3000);
        x.tick(99);
        Due.same("force() before the reading", x.force(), 0);
        x.tick(1);
        Due.same("force() at 3,000", x.force(), 2_515_500);
        x.fail(0, 7000);
        x.fail(1, 0);
        x.tick(1);
        Due.same("force() at 8,571 (truncated)", x.force(), 1118L * 250 * 8571 * 8571 / 1_000_000);
        x.fail(1, 10000);
        x.tick(1);
        Due.same("force() at 100,000 of the other sensor", x.force(), 2_795_000_000L);
        x.fail(0, 0);
        x.fail(1, 1);
        x.tick(1);
        Due.same("force() at 10", x.force(), 27);
        Units.speed(x, 0);
        x.tick(1);
        Due.same("force() at 0", x.force(), 0);
    }

    private static void plant() {
        CentrifugeUnit x = new CentrifugeUnit();
        x.rotor(0, 7, 100, 5000, 1);
        x.put(0);
        Units.started(x, 0, 2000, 48);
        x.tick(1);
        Due.same("plant() of drive 52", x.plant(), 52000 - 26 - 200);
        Units.speed(x, 3000);
        x.tick(1);
        Due.same("plant() is no sensor's: brake 3", x.plant(), 51774 - 25 - 200 - 30000);
        x.tick(1);
        Due.same("plant() is not below 0", x.plant(), 0);
    }
}
