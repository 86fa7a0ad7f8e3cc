/** Promise 17, and THE MODEL of the terms. */
final class PlantTest {
    public static void main(String[] args) {
        zeroAtFirst();
        growsByTheDrive();
        growthIsTruncated();
        fallsByTheBrake();
        notBelowZero();
        fallsAloneWhenIdle();
        followsTheOrders();
        sensorsDoNotChangeIt();
        Due.end();
    }

    /** "a true speed V in thousandths (0 at first)" */
    private static void zeroAtFirst() {
        CentrifugeUnit x = new CentrifugeUnit();
        Due.same("plant() of a new one", x.plant(), 0);
        x.tick(2000);
        Due.same("plant() of an idle one", x.plant(), 0);
    }

    /** "V grows by 1,000 * drive / inertia (..; of none: 100), .. then it falls by V / 2,000 + 200" */
    private static void growsByTheDrive() {
        CentrifugeUnit x = new CentrifugeUnit();
        Units.started(x, 0, 20000, 500);
        long[] want = {800, 1600, 2399, 3198};
        for (long v : want) {
            x.tick(1);
            Due.same("plant()", x.plant(), v);
        }
        Due.same("drive", x.look(Units.DRIVE), 100);
    }

    /** "towards 0 truncated" */
    private static void growthIsTruncated() {
        long[] inertias = {3, 7, 11, 480, 481, 1000};
        for (long inertia : inertias) {
            CentrifugeUnit x = new CentrifugeUnit();
            x.rotor(0, 7, 100, 5000, (int) inertia);
            x.put(0);
            Units.started(x, 0, 20000, 223);
            x.tick(1);
            Due.same("drive", x.look(Units.DRIVE), 95);
            long v = 95000 / inertia;
            Due.same("plant() with inertia " + inertia, x.plant(), Math.max(0, v - v / 2000 - 200));
        }
    }

    /** "and by 10,000 * brake / inertia" */
    private static void fallsByTheBrake() {
        CentrifugeUnit x = new CentrifugeUnit();
        x.rotor(0, 7, 100, 5000, 700);
        Units.started(x, 0, 20000, 500);
        x.tick(3);
        x.put(0);
        x.stop();
        x.tick(1);
        Due.same("plant() with 90,000 / 700", x.plant(), 2399 - 1 - 200 - 128);
    }

    /** "but not below 0" */
    private static void notBelowZero() {
        CentrifugeUnit x = new CentrifugeUnit();
        Units.started(x, 0, 20000, 500);
        x.tick(3);
        x.stop();
        long[] want = {1298, 198, 0, 0};
        for (long v : want) {
            x.tick(1);
            Due.same("plant()", x.plant(), v);
        }
        CentrifugeUnit y = new CentrifugeUnit();
        y.rotor(0, 7, 100, 5000, 1000);
        y.put(0);
        Units.started(y, 0, 20000, 500);
        y.tick(100);
        Due.same("a growth of 100 is lost at each tick", y.plant(), 0);
    }

    private static void fallsAloneWhenIdle() {
        CentrifugeUnit x = new CentrifugeUnit();
        Units.speed(x, 0);
        x.tick(25);
        Units.started(x, 0, 20000, 500);
        x.tick(3);
        x.stop();
        Due.same("the sensors told rest", x.tick(1), Units.IDLE);
        Due.same("plant() of the braked tick", x.plant(), 1298);
        x.tick(1);
        Due.same("plant() of an idle tick", x.plant(), 1098);
    }

    private static void followsTheOrders() {
        CentrifugeUnit x = new CentrifugeUnit();
        x.rotor(0, 7, 10, 5000, 2);
        x.put(0);
        Units.started(x, 0, 1500, 90, 1, 10, 0, 3, 500, 5, 1, 20, 0);
        boolean driven = false;
        boolean braked = false;
        boolean stopped = false;
        long v = 0;
        for (int i = 1; i <= 120; i++) {
            x.tick(1);
            int drive = x.look(Units.DRIVE);
            int brake = x.look(Units.BRAKE);
            v += 1000L * drive / 2;
            v = Math.max(0, v - v / 2000 - 200 - 10_000L * brake / 2);
            Due.same("plant() at tick " + i, x.plant(), v);
            driven |= drive > 0;
            braked |= brake == 5;
            stopped |= brake == 9;
        }
        Due.isTrue("it was driven, braked and stopped", driven && braked && stopped);
    }

    private static void sensorsDoNotChangeIt() {
        CentrifugeUnit x = new CentrifugeUnit();
        x.rotor(0, 7, 100, 5000, 1);
        x.put(0);
        Units.started(x, 0, 2000, 48);
        x.tick(1);
        Due.same("plant() of drive 52", x.plant(), 52000 - 26 - 200);
        Units.speed(x, 3000);
        x.tick(1);
        Due.same("plant() with brake 3", x.plant(), 51774 - 25 - 200 - 30000);
        x.tick(1);
        Due.same("plant() is not below 0", x.plant(), 0);
    }
}
