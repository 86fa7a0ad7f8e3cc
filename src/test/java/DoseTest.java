/** Promise 15, and DOSE of the tick. */
final class DoseTest {
    public static void main(String[] args) {
        noneBeforeTheReading();
        radiusOfTheRotorRead();
        lesserSpeed();
        onlyWhileRunning();
        noneOfAFaultsTick();
        ofTheLastTickToo();
        beyondAnInt();
        staysUntilTheStart();
        Due.end();
    }

    /** "radius (of the rotor read; 0 before)" */
    private static void noneBeforeTheReading() {
        CentrifugeUnit x = Units.holding(3000);
        x.tick(99);
        Due.same("dose() before the reading", x.dose(), 0);
        x.tick(1);
        Due.same("dose() with the reading", x.dose(), 250L * 9_000_000);
    }

    private static void radiusOfTheRotorRead() {
        for (int radius : new int[] {10, 300}) {
            CentrifugeUnit x = new CentrifugeUnit();
            x.rotor(2, 7, radius, 5000, 50);
            x.put(2);
            Units.speed(x, 3000);
            Units.started(x, 1, 100000, 0);
            x.tick(100);
            Due.same("dose() of radius " + radius, x.dose(), radius * 9_000_000L);
            x.put(-1);
            x.tick(1);
            Due.same("of the one read, not of the one in", x.dose(), 2 * radius * 9_000_000L);
        }
    }

    /** "times the square of the lesser speed is added" */
    private static void lesserSpeed() {
        CentrifugeUnit x = Units.withRotor();
        x.fail(0, 20000);
        x.fail(1, 290);
        Units.started(x, 1, 100000, 0);
        x.tick(100);
        Due.same("dose of the commutator", x.dose(), 250L * 2900 * 2900);
        x.fail(0, 24000);
        x.tick(1);
        Due.same("dose of the tacho", x.dose(), 250L * (2900 * 2900 + 2500 * 2500));
        x.fail(0, 0);
        x.tick(1);
        Due.same("a dead tacho adds none", x.dose(), 250L * (2900 * 2900 + 2500 * 2500));
    }

    /** "DOSE (while RUNNING)" */
    private static void onlyWhileRunning() {
        CentrifugeUnit x = Units.holding(3000);
        x.tick(100);
        x.stop();
        x.tick(5);
        Due.same("no more when stopping", x.dose(), 250L * 9_000_000);
        x.bolt(false, false);
        x.tick(5);
        Due.same("no more in a fault", x.dose(), 250L * 9_000_000);
        CentrifugeUnit y = Units.holding(3000);
        y.tick(50);
        y.stop();
        y.tick(50);
        Due.same("read when stopping", y.look(Units.ROTOR), 0);
        Due.same("no dose of it", y.dose(), 0);
    }

    private static void noneOfAFaultsTick() {
        CentrifugeUnit x = Units.holding(3000);
        x.tick(100);
        x.bolt(false, false);
        x.tick(1);
        Due.same("dose()", x.dose(), 250L * 9_000_000);
    }

    /** The dose is before the segment: the tick that ends the program adds to it. */
    private static void ofTheLastTickToo() {
        CentrifugeUnit x = Units.withRotor();
        Units.speed(x, 3000);
        Units.started(x, 1, 100, 0);
        Due.same("tick(100)", x.tick(100), Units.STOPPING);
        Due.same("dose()", x.dose(), 250L * 9_000_000);
    }

    private static void beyondAnInt() {
        CentrifugeUnit x = new CentrifugeUnit();
        x.rotor(0, 7, 300, 20000, 50);
        x.put(0);
        Units.speed(x, 3000);
        Units.started(x, 1, 100000, 0);
        x.tick(100);
        Due.same("of one tick", x.dose(), 2_700_000_000L);
        Units.speed(x, 20000);
        x.tick(2000);
        Due.same("of 2,000 more", x.dose(), 2_700_000_000L + 2000 * 120_000_000_000L);
    }

    private static void staysUntilTheStart() {
        CentrifugeUnit x = Units.holding(3000);
        x.tick(100);
        x.stop();
        Units.speed(x, 0);
        Due.same("idle", x.tick(25), Units.IDLE);
        x.tick(10);
        Due.same("dose() when idle", x.dose(), 250L * 9_000_000);
        x.start();
        Due.same("dose() of a new run", x.dose(), 0);
    }
}
