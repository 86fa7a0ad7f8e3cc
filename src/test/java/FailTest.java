/** Promise 11, and the sensors. */
final class FailTest {
    public static void main(String[] args) {
        sensorIsOneOfTwo();
        numberHasBounds();
        refusedOneChangesNothing();
        whatTheTachoTells();
        whatTheCommutatorTells();
        fromTheNextTickOn();
        trueOnesFollowTheModel();
        tachoDividesExactly();
        tachoIsBlindBelow60000();
        commutatorIsBlindBelow10000();
        trueOnesAre100000AtMost();
        toldWithoutPower();
        Due.end();
    }

    /** "(0 tacho, 1 commutator)"; "no such sensor" */
    private static void sensorIsOneOfTwo() {
        CentrifugeUnit x = new CentrifugeUnit();
        for (int sensor : new int[] {-1, 2, Integer.MIN_VALUE, Integer.MAX_VALUE}) {
            for (int tells : new int[] {-1, 0, 5}) {
                Due.refused("fail(" + sensor + ", " + tells + ")", Due.ARGUMENT, () -> x.fail(sensor, tells));
            }
        }
    }

    /** "or a number that is not -1 .. 1,000,000" */
    private static void numberHasBounds() {
        CentrifugeUnit x = new CentrifugeUnit();
        for (int sensor : new int[] {0, 1}) {
            for (int tells : new int[] {-1, 0, 1, 999999, 1000000}) {
                Due.taken("fail(" + sensor + ", " + tells + ")", () -> x.fail(sensor, tells));
            }
            for (int tells : new int[] {-2, 1000001, Integer.MIN_VALUE, Integer.MAX_VALUE}) {
                Due.refused("fail(" + sensor + ", " + tells + ")", Due.ARGUMENT, () -> x.fail(sensor, tells));
            }
        }
    }

    private static void refusedOneChangesNothing() {
        CentrifugeUnit x = new CentrifugeUnit();
        Units.speed(x, 1000);
        for (int sensor : new int[] {0, 1}) {
            Due.refused("fail(" + sensor + ", -2)", Due.ARGUMENT, () -> x.fail(sensor, -2));
            Due.refused("fail(" + sensor + ", 1000001)", Due.ARGUMENT, () -> x.fail(sensor, 1000001));
        }
        Due.refused("fail(2, 5)", Due.ARGUMENT, () -> x.fail(2, 5));
        x.tick(1);
        Due.same("speed 0", x.look(Units.SPEED_0), 1000);
        Due.same("speed 1", x.look(Units.SPEED_1), 1000);
    }

    private static void told(int sensor, int tells, int speed) {
        CentrifugeUnit x = new CentrifugeUnit();
        x.fail(sensor, tells);
        x.tick(1);
        Due.same("speed for fail(" + sensor + ", " + tells + ")", x.look(Units.SPEED_0 + sensor), speed);
        Due.same("the other speed", x.look(Units.SPEED_1 - sensor), 0);
    }

    /** "SPEED 0 (of the tacho) is 0 for 0, otherwise 60,000,000 / it; .. 100,000 at most" */
    private static void whatTheTachoTells() {
        told(0, 0, 0);
        told(0, 1, 100000);
        told(0, 599, 100000);
        told(0, 600, 100000);
        told(0, 601, 99833);
        told(0, 7000, 8571);
        told(0, 397351, 150);
        told(0, 1000000, 60);
    }

    /** "speed 1 is 10 times the count; both are 100,000 at most" */
    private static void whatTheCommutatorTells() {
        told(1, 0, 0);
        told(1, 1, 10);
        told(1, 9999, 99990);
        told(1, 10000, 100000);
        told(1, 10001, 100000);
        told(1, 1000000, 100000);
    }

    /** "from the next tick on; -1: the true one again"; "All are as the latest tick saw them, 0 before" */
    private static void fromTheNextTickOn() {
        for (int sensor : new int[] {0, 1}) {
            CentrifugeUnit x = new CentrifugeUnit();
            x.fail(sensor, sensor == 0 ? 60000 : 100);
            Due.same("no tick yet", x.look(Units.SPEED_0 + sensor), 0);
            x.tick(1);
            Due.same("told", x.look(Units.SPEED_0 + sensor), 1000);
            x.fail(sensor, -1);
            Due.same("as the latest tick saw it", x.look(Units.SPEED_0 + sensor), 1000);
            x.tick(1);
            Due.same("the true one", x.look(Units.SPEED_0 + sensor), 0);
        }
    }

    /** "60,000,000,000 / V"; "the COMMUTATOR counts V / 10,000 in a tick" */
    private static void trueOnesFollowTheModel() {
        CentrifugeUnit x = new CentrifugeUnit();
        x.rotor(0, 7, 10, 20000, 2);
        x.put(0);
        Units.started(x, 0, 2800, 73, 1, 20, 0, 3, 0, 1);
        boolean slow = false;
        boolean fast = false;
        long v = 0;
        for (int i = 0; i < 120; i++) {
            x.tick(1);
            long turn = v < 60000 ? 0 : 60_000_000_000L / v;
            Due.same("speed 0 at " + v, x.look(Units.SPEED_0), turn == 0 ? 0 : 60_000_000L / turn);
            Due.same("speed 1 at " + v, x.look(Units.SPEED_1), v / 10000 * 10);
            slow |= v >= 10000 && v < 60000;
            fast |= v > 2_000_000;
            v = x.plant();
        }
        Due.isTrue("slow and fast speeds were seen", slow && fast);
    }

    /** "60,000,000,000 / V": speeds that divide this number, and the next one */
    private static void tachoDividesExactly() {
        Due.same("speed 0 at 12,000,000", fastAt(12_000_000L, 1, 124, 56, 7).look(Units.SPEED_0), 12000);
        Due.same("speed 0 at 6,605,747", fastAt(6_605_747L, 2, 137, 431, 5).look(Units.SPEED_0), 6606);
    }

    /** Full drive with one rotor for many ticks and with two others for one each: that very speed. */
    private static CentrifugeUnit fastAt(long v, int inertia, int ticks, int second, int third) {
        CentrifugeUnit x = new CentrifugeUnit();
        x.rotor(0, 7, 100, 5000, inertia);
        x.rotor(1, 8, 100, 5000, second);
        x.rotor(2, 9, 100, 5000, third);
        Units.speed(x, 0);
        Units.started(x, 0, 20000, 500);
        x.put(0);
        x.tick(ticks);
        x.put(1);
        x.tick(1);
        x.put(2);
        x.tick(1);
        Due.same("plant()", x.plant(), v);
        x.fail(0, -1);
        x.tick(1);
        return x;
    }

    /** "0 when V is below 60,000" */
    private static void tachoIsBlindBelow60000() {
        Due.same("speed 0 at 59,999", at(59999, 80, 1, 174).look(Units.SPEED_0), 0);
        Due.same("speed 0 at 60,000", at(60000, 82, 1, 176).look(Units.SPEED_0), 60);
    }

    private static void commutatorIsBlindBelow10000() {
        Due.same("speed 1 at 9,999", at(9999, 38, 5, 97).look(Units.SPEED_1), 0);
        Due.same("speed 1 at 10,000", at(10000, 24, 5, 43).look(Units.SPEED_1), 10);
        Due.same("speed 1 at 19,999", at(19999, 212, 5, 55).look(Units.SPEED_1), 10);
        Due.same("speed 1 at 20,000", at(20000, 74, 50, 4).look(Units.SPEED_1), 20);
    }

    /** Two ticks of a ramp, each with a rotor of its own, bring the model to that very speed. */
    private static CentrifugeUnit at(long v, int slope, int inertia, int nextInertia) {
        CentrifugeUnit x = new CentrifugeUnit();
        x.rotor(0, 7, 100, 5000, inertia);
        x.rotor(1, 8, 100, 5000, nextInertia);
        Units.speed(x, 0);
        x.put(0);
        Units.started(x, 0, 20000, slope);
        x.tick(1);
        x.put(1);
        x.tick(1);
        Due.same("plant()", x.plant(), v);
        x.fail(0, -1);
        x.fail(1, -1);
        x.tick(1);
        return x;
    }

    /** "both are 100,000 at most", of the true speed too */
    private static void trueOnesAre100000AtMost() {
        CentrifugeUnit x = new CentrifugeUnit();
        x.rotor(0, 7, 100, 20000, 1);
        x.put(0);
        Units.speed(x, 0);
        Units.started(x, 0, 20000, 500);
        x.tick(2000);
        Due.isTrue("plant() is above 101,000,000", x.plant() > 101_000_000L);
        x.fail(0, -1);
        x.fail(1, -1);
        x.tick(1);
        Due.same("speed 0", x.look(Units.SPEED_0), 100000);
        Due.same("speed 1", x.look(Units.SPEED_1), 100000);
    }

    private static void toldWithoutPower() {
        CentrifugeUnit x = Units.unpowered();
        Units.speed(x, 1000);
        x.tick(1);
        Due.same("sensors are not read", x.look(Units.SPEED_0), 0);
        x.power(true);
        x.tick(1);
        Due.same("told", x.look(Units.SPEED_0), 1000);
    }
}
