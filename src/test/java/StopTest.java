/** Promise 6. */
final class StopTest {
    public static void main(String[] args) {
        stops();
        needsRunning();
        needsPower();
        Due.end();
    }

    private static void stops() {
        CentrifugeUnit x = Units.withRotor();
        Units.speed(x, 1000);
        Units.started(x, 0, 3000, 50);
        x.tick(1);
        Due.same("drive", x.look(Units.DRIVE), 52);
        Due.taken("stop()", x::stop);
        Due.same("state", x.look(Units.STATE), Units.STOPPING);
        Due.same("reason", x.look(Units.REASON), 11);
        Due.same("segment", x.look(Units.SEGMENT), -1);
        Due.same("the order of the latest tick", x.look(Units.DRIVE), 52);
        Due.same("tick(1)", x.tick(1), Units.STOPPING);
        Due.same("drive", x.look(Units.DRIVE), 0);
        Due.same("brake", x.look(Units.BRAKE), 9);
        Units.speed(x, 0);
        Due.same("24 ticks of rest", x.tick(24), Units.STOPPING);
        Due.same("the 25th", x.tick(1), Units.IDLE);
        Due.same("reason", x.look(Units.REASON), 11);
    }

    private static void needsRunning() {
        Due.refused("stop() when idle", Due.STATE, Units.withRotor()::stop);
        Due.refused("stop() when stopping", Due.STATE, Units.stopping()::stop);
        Due.refused("stop() in a fault", Due.STATE, Units.faulty()::stop);
    }

    private static void needsPower() {
        CentrifugeUnit x = Units.holding(1000);
        x.tick(1);
        x.power(false);
        Due.refused("stop() without power", Due.STATE, x::stop);
        Due.same("state", x.look(Units.STATE), Units.RUNNING);
    }
}
