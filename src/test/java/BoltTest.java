/** Promise 8. */
final class BoltTest {
    public static void main(String[] args) {
        boolean[] contact = {false, true};
        for (boolean a : contact) {
            for (boolean b : contact) {
                lockedIsAWithoutB(a, b);
                toldWithoutPower(a, b);
            }
        }
        noneIsLookedAtWhenIdle();
        Due.end();
    }

    private static void lockedIsAWithoutB(boolean a, boolean b) {
        boolean locked = a && !b;
        CentrifugeUnit x = Units.holding(1000);
        x.tick(1);
        x.bolt(a, b);
        Due.same("no tick yet", x.look(Units.STATE), Units.RUNNING);
        Due.same("running with bolt(" + a + ", " + b + ")", x.tick(1), locked ? Units.RUNNING : Units.FAULT);
        Due.same("reason", x.look(Units.REASON), locked ? 0 : 1);
        CentrifugeUnit y = Units.stopping();
        y.bolt(a, b);
        Due.same("stopping with bolt(" + a + ", " + b + ")", y.tick(1), locked ? Units.STOPPING : Units.FAULT);
        Due.same("reason", y.look(Units.REASON), locked ? 11 : 1);
    }

    private static void toldWithoutPower(boolean a, boolean b) {
        CentrifugeUnit x = Units.unpowered();
        x.bolt(a, b);
        x.power(true);
        Due.refused("start() with bolt(" + a + ", " + b + ")", a && !b ? null : Due.STATE, x::start);
    }

    private static void noneIsLookedAtWhenIdle() {
        CentrifugeUnit x = Units.withRotor();
        x.bolt(false, true);
        Due.same("tick(30) with an open lid", x.tick(30), Units.IDLE);
        Due.same("reason", x.look(Units.REASON), 0);
        Due.taken("open() when it is open", x::open);
    }
}
