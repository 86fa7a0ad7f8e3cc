/** Promise 6. */
final class StopTest {
    public static void main(String[] args) {
        stops();
        stopsBeforeTheFirstTick();
        notRunning();
        noPower();
        Due.end();
    }

    /** "stop(): RUNNING becomes STOPPING with reason 11" */
    private static void stops() {
        CentrifugeUnit x = Units.withRotor();
        Units.speed(x, 1000);
        Units.started(x, 0, 3000, 50);
        x.tick(1);
        Due.same("drive", x.look(Units.DRIVE), 52);
        Due.taken("stop()", x::stop);
        Due.same("state", x.look(Units.STATE), Units.STOPPING);
        Due.same("reason", x.look(Units.REASON), 11);
        Due.same("segment", x.look(Units.SEGMENT), -1);
        Due.same("the order of the latest tick", x.look(Units.DRIVE), 52);
        Due.same("tick(1)", x.tick(1), Units.STOPPING);
        Due.same("drive", x.look(Units.DRIVE), 0);
        Due.same("brake", x.look(Units.BRAKE), 9);
        Units.speed(x, 0);
        Due.same("24 ticks of rest", x.tick(24), Units.STOPPING);
        Due.same("the 25th", x.tick(1), Units.IDLE);
        Due.same("reason", x.look(Units.REASON), 11);
    }

    private static void stopsBeforeTheFirstTick() {
        CentrifugeUnit x = Units.holding(1000);
        Due.taken("stop() at once", x::stop);
        Due.same("tick(1)", x.tick(1), Units.STOPPING);
        Due.same("reason", x.look(Units.REASON), 11);
    }

    /** "IllegalStateException: not RUNNING" */
    private static void notRunning() {
        Due.refused("stop() of a new one", Due.STATE, new CentrifugeUnit()::stop);
        Due.refused("stop() when idle", Due.STATE, Units.ended()::stop);
        CentrifugeUnit through = Units.withRotor();
        Units.speed(through, 1000);
        Units.started(through, 1, 1, 0);
        through.tick(1);
        Due.refused("stop() when stopping by itself", Due.STATE, through::stop);
        Due.same("the reason before stays", through.look(Units.REASON), 10);
        CentrifugeUnit faulty = Units.faulty();
        Due.refused("stop() in a fault", Due.STATE, faulty::stop);
        Due.same("state", faulty.look(Units.STATE), Units.FAULT);
        Due.same("the reason before stays", faulty.look(Units.REASON), 1);
        Due.refused("stop() when stopping", Due.STATE, Units.stopping()::stop);
    }

    /** "IllegalStateException: .. or no power" */
    private static void noPower() {
        CentrifugeUnit x = Units.holding(1000);
        x.tick(1);
        x.power(false);
        Due.refused("stop() without power", Due.STATE, x::stop);
        Due.same("state", x.look(Units.STATE), Units.RUNNING);
        Due.same("reason", x.look(Units.REASON), 0);
    }
}
