/** Promise 8, and the fault of a lid that is not locked. */
final class BoltTest {
    public static void main(String[] args) {
        boolean[] contact = {false, true};
        for (boolean a : contact) {
            for (boolean b : contact) {
                lockedIsAWithoutB(a, b);
                toldWithoutPower(a, b);
                notLookedAtWhenIdle(a, b);
            }
        }
        lockedAgainIsTooLate();
        lockedAgainBeforeTheTick();
        Due.end();
    }

    /** "the lid is not LOCKED (reason 1)"; "LOCKED is a without b" */
    private static void lockedIsAWithoutB(boolean a, boolean b) {
        boolean locked = a && !b;
        CentrifugeUnit x = Units.holding(1000);
        x.tick(1);
        x.bolt(a, b);
        Due.same("no tick yet", x.look(Units.STATE), Units.RUNNING);
        Due.same("running with bolt(" + a + ", " + b + ")", x.tick(1), locked ? Units.RUNNING : Units.FAULT);
        Due.same("reason", x.look(Units.REASON), locked ? 0 : 1);
        CentrifugeUnit y = Units.stopping();
        y.bolt(a, b);
        Due.same("stopping with bolt(" + a + ", " + b + ")", y.tick(1), locked ? Units.STOPPING : Units.FAULT);
        Due.same("reason", y.look(Units.REASON), locked ? 11 : 1);
    }

    private static void toldWithoutPower(boolean a, boolean b) {
        CentrifugeUnit x = Units.unpowered();
        x.bolt(a, b);
        x.power(true);
        Due.refused("start() with bolt(" + a + ", " + b + ")", a && !b ? null : Due.STATE, x::start);
    }

    private static void notLookedAtWhenIdle(boolean a, boolean b) {
        CentrifugeUnit x = Units.withRotor();
        x.bolt(a, b);
        Due.same("tick(30) with bolt(" + a + ", " + b + ")", x.tick(30), Units.IDLE);
        Due.same("reason", x.look(Units.REASON), 0);
    }

    private static void lockedAgainIsTooLate() {
        CentrifugeUnit x = Units.holding(1000);
        x.bolt(true, true);
        x.tick(1);
        x.bolt(true, false);
        Due.same("a fault stays one", x.tick(5), Units.FAULT);
        Due.same("reason", x.look(Units.REASON), 1);
    }

    private static void lockedAgainBeforeTheTick() {
        CentrifugeUnit x = Units.holding(1000);
        x.bolt(false, true);
        x.bolt(true, false);
        Due.same("no tick saw it", x.tick(1), Units.RUNNING);
    }
}
