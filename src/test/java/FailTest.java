/** Promise 11, the sensors, and the watch for sensors that differ. */
final class FailTest {
    public static void main(String[] args) {
        edges();
        whatTheTachoTells();
        whatTheCommutatorTells();
        fromTheNextTickOn();
        trueOnesFollowTheModel();
        tachoIsBlindBelow60000();
        tenTicksInARow();
        differenceThatIsAllowed();
        rowIsBroken();
        countedBeforeTheStart();
        powerForgetsTheRow();
        Due.end();
    }

    private static void edges() {
        CentrifugeUnit x = new CentrifugeUnit();
        for (int sensor = 0; sensor < 2; sensor++) {
            int s = sensor;
            for (int tells : new int[] {-1, 0, 1000000}) {
                Due.taken("fail(" + s + ", " + tells + ")", () -> x.fail(s, tells));
            }
            for (int tells : new int[] {-2, 1000001, Integer.MIN_VALUE, Integer.MAX_VALUE}) {
                Due.refused("fail(" + s + ", " + tells + ")", Due.ARGUMENT, () -> x.fail(s, tells));
            }
        }
        for (int sensor : new int[] {-1, 2, Integer.MIN_VALUE, Integer.MAX_VALUE}) {
            Due.refused("fail(" + sensor + ", 0)", Due.ARGUMENT, () -> x.fail(sensor, 0));
        }
    }

    private static void told(int sensor, int tells, int speed) {
        CentrifugeUnit x = new CentrifugeUnit();
        x.fail(sensor, tells);
        x.tick(1);
        Due.same("speed for fail(" + sensor + ", " + tells + ")", x.look(Units.SPEED_0 + sensor), speed);
        Due.same("the other speed", x.look(Units.SPEED_1 - sensor), 0);
    }

    private static void whatTheTachoTells() {
        told(0, 0, 0);
        told(0, 1, 100000);
        told(0, 599, 100000);
        told(0, 600, 100000);
        told(0, 601, 99833);
        told(0, 7000, 8571);
        told(0, 397351, 150);
        told(0, 1000000, 60);
    }

    private static void whatTheCommutatorTells() {
        told(1, 0, 0);
        told(1, 1, 10);
        told(1, 9999, 99990);
        told(1, 10000, 100000);
        told(1, 10001, 100000);
        told(1, 1000000, 100000);
    }

    private static void fromTheNextTickOn() {
        CentrifugeUnit x = new CentrifugeUnit();
        x.fail(0, 60000);
        Due.same("no tick yet", x.look(Units.SPEED_0), 0);
        x.tick(1);
        Due.same("told", x.look(Units.SPEED_0), 1000);
        x.fail(0, -1);
        Due.same("as the latest tick saw it", x.look(Units.SPEED_0), 1000);
        x.tick(1);
        Due.same("the true one", x.look(Units.SPEED_0), 0);
    }

    private static void trueOnesFollowTheModel() {
        CentrifugeUnit x = new CentrifugeUnit();
        x.rotor(0, 7, 10, 20000, 3);
        x.put(0);
        Units.started(x, 0, 2800, 37, 1, 100, 0, 3, 0, 1);
        boolean slow = false;
        boolean fast = false;
        for (int i = 0; i < 600; i++) {
            long v = x.plant();
            x.tick(1);
            long turn = v < 60000 ? 0 : 60_000_000_000L / v;
            Due.same("speed 0 at " + v, x.look(Units.SPEED_0), turn == 0 ? 0 : 60_000_000L / turn);
            Due.same("speed 1 at " + v, x.look(Units.SPEED_1), v / 10000 * 10);
            slow |= v >= 10000 && v < 60000;
            fast |= v > 2_000_000;
        }
        Due.isTrue("slow and fast speeds were seen", slow && fast);
    }

    private static void tachoIsBlindBelow60000() {
        slow(80, 174, 59999, 0);
        slow(82, 176, 60000, 60);
    }

    /** Two ticks of a ramp, the second with a heavier rotor, bring the model to that very speed. */
    private static void slow(int slope, int inertia, long v, int speed) {
        CentrifugeUnit x = new CentrifugeUnit();
        x.rotor(0, 7, 100, 5000, 1);
        x.rotor(1, 8, 100, 5000, inertia);
        Units.speed(x, 0);
        x.put(0);
        Units.started(x, 0, 20000, slope);
        x.tick(1);
        x.put(1);
        x.tick(1);
        Due.same("plant()", x.plant(), v);
        x.fail(0, -1);
        x.tick(1);
        Due.same("speed 0 at " + v, x.look(Units.SPEED_0), speed);
    }

    private static CentrifugeUnit differing(int tacho, int commutator) {
        CentrifugeUnit x = Units.withRotor();
        x.fail(0, tacho == 0 ? 0 : 60_000_000 / tacho);
        x.fail(1, commutator / 10);
        return Units.started(x, 1, 100000, 0);
    }

    private static void tenTicksInARow() {
        CentrifugeUnit x = differing(1000, 790);
        Due.same("tick(9)", x.tick(9), Units.RUNNING);
        Due.same("tick(1)", x.tick(1), Units.FAULT);
        Due.same("reason", x.look(Units.REASON), 5);
        CentrifugeUnit y = differing(0, 2000);
        Due.same("a dead tacho, tick(9)", y.tick(9), Units.RUNNING);
        Due.same("a dead tacho, tick(1)", y.tick(1), Units.FAULT);
    }

    private static void differenceThatIsAllowed() {
        Due.same("1,000 and 800", differing(1000, 800).tick(50), Units.RUNNING);
        Due.same("800 and 980", differing(800, 980).tick(50), Units.RUNNING);
        Due.same("800 and 1,000", differing(800, 1000).tick(50), Units.RUNNING);
        Due.same("800 and 1,010", differing(800, 1010).tick(50), Units.FAULT);
        CentrifugeUnit x = differing(0, 1000);
        x.fail(0, 75093);
        Due.same("799 and 1,000", x.tick(50), Units.FAULT);
        Due.same("799 is told", x.look(Units.SPEED_0), 799);
        Due.same("0 and 110", differing(0, 110).tick(50), Units.RUNNING);
        Due.same("0 and 120", differing(0, 120).tick(50), Units.FAULT);
    }

    private static void rowIsBroken() {
        CentrifugeUnit x = differing(1000, 700);
        x.tick(9);
        x.fail(1, 100);
        x.tick(1);
        x.fail(1, 70);
        Due.same("9 more", x.tick(9), Units.RUNNING);
        Due.same("a 10th", x.tick(1), Units.FAULT);
    }

    private static void countedBeforeTheStart() {
        CentrifugeUnit x = Units.withRotor();
        x.fail(1, 100);
        Due.same("idle", x.tick(9), Units.IDLE);
        Units.started(x, 1, 100, 0);
        Due.same("the first tick of the run", x.tick(1), Units.FAULT);
        Due.same("reason", x.look(Units.REASON), 5);
    }

    private static void powerForgetsTheRow() {
        CentrifugeUnit x = Units.withRotor();
        x.fail(1, 100);
        x.tick(20);
        x.power(false);
        x.power(true);
        Units.started(x, 1, 100, 0);
        Due.same("9 ticks behind the power", x.tick(9), Units.RUNNING);
        Due.same("the 10th", x.tick(1), Units.FAULT);
    }
}
