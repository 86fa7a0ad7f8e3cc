/** Promise 5. */
final class StartTest {
    public static void main(String[] args) {
        needsAProgram();
        needsALockedLid();
        needsIdle();
        needsPower();
        beginsAnew();
        goalBeginsAtZero();
        programBeginsAnew();
        wrongRotorIsForgotten();
        Due.end();
    }

    private static void needsAProgram() {
        CentrifugeUnit x = new CentrifugeUnit();
        Due.refused("start() without a program", Due.STATE, x::start);
        x.segment(1, 1, 0);
        Due.taken("start() with one", x::start);
        Due.same("state", x.look(Units.STATE), Units.RUNNING);
        Due.same("segment", x.look(Units.SEGMENT), 0);
    }

    private static void needsALockedLid() {
        boolean[] contact = {false, true};
        for (boolean a : contact) {
            for (boolean b : contact) {
                CentrifugeUnit x = new CentrifugeUnit();
                x.segment(1, 1, 0);
                x.bolt(a, b);
                Due.refused("start() with bolt(" + a + ", " + b + ")", a && !b ? null : Due.STATE, x::start);
            }
        }
    }

    private static void needsIdle() {
        CentrifugeUnit[] all = {Units.holding(1000), Units.stopping(), Units.faulty()};
        for (CentrifugeUnit x : all) {
            int state = x.look(Units.STATE);
            Due.refused("start() in " + state, Due.STATE, x::start);
            Due.same("state", x.look(Units.STATE), state);
        }
    }

    private static void needsPower() {
        CentrifugeUnit x = Units.unpowered();
        Due.refused("start() without power", Due.STATE, x::start);
        x.power(true);
        Due.taken("start() with power, rest not yet", x::start);
    }

    private static void beginsAnew() {
        CentrifugeUnit x = Units.holding(3000);
        x.tick(150);
        x.bolt(false, false);
        x.tick(1);
        x.bolt(true, false);
        Units.speed(x, 0);
        x.tick(25);
        Due.same("idle", x.look(Units.STATE), Units.IDLE);
        Due.same("dose stays until the start", x.dose(), 51L * 250 * 9_000_000);
        Due.same("rotor read stays until the start", x.look(Units.ROTOR), 0);
        Due.same("reason stays until the start", x.look(Units.REASON), 1);
        x.start();
        Due.same("dose", x.dose(), 0);
        Due.same("rotor read", x.look(Units.ROTOR), -1);
        Due.same("reason", x.look(Units.REASON), 0);
        Due.same("rest is not touched", x.look(Units.REST), 1);
        Units.speed(x, 3000);
        Due.same("tick(99)", x.tick(99), Units.RUNNING);
        Due.same("the sum began anew", x.look(Units.ROTOR), -1);
        x.tick(1);
        Due.same("read at 300,000", x.look(Units.ROTOR), 0);
        Due.same("dose of one tick", x.dose(), 250L * 9_000_000);
    }

    private static void programBeginsAnew() {
        CentrifugeUnit x = Units.withRotor();
        x.tick(25);
        Units.started(x, 1, 1, 0, 1, 3, 0);
        x.tick(3);
        Due.same("at the second segment", x.look(Units.SEGMENT), 1);
        x.stop();
        Due.same("idle", x.tick(1), Units.IDLE);
        x.start();
        Due.same("at the first segment", x.look(Units.SEGMENT), 0);
        x.tick(1);
        Due.same("through the first segment", x.look(Units.SEGMENT), 1);
        Due.same("two ticks of the second", x.tick(2), Units.RUNNING);
        x.stop();
        x.tick(1);
        Units.started(x, 1, 2, 0);
        Due.same("the first tick of a hold", x.tick(1), Units.RUNNING);
        Due.same("the second", x.tick(1), Units.IDLE);
    }

    private static void wrongRotorIsForgotten() {
        CentrifugeUnit x = Units.holding(3000);
        x.put(-1);
        x.tick(100);
        Due.same("wrong rotor", x.look(Units.REASON), 2);
        Units.speed(x, 0);
        x.tick(25);
        Units.started(x, 1, 10, 0);
        Due.same("the next run", x.tick(5), Units.RUNNING);
    }

    private static void goalBeginsAtZero() {
        CentrifugeUnit x = Units.withRotor();
        Units.speed(x, 500);
        Units.started(x, 0, 600, 500);
        x.tick(1);
        Due.same("goal of the first run", x.look(Units.GOAL), 600);
        Units.speed(x, 0);
        x.tick(25);
        Due.same("idle", x.look(Units.STATE), Units.IDLE);
        Units.started(x, 1, 10, 0);
        x.tick(1);
        Due.same("goal of a run without a ramp", x.look(Units.GOAL), 0);
        Due.same("drive of a run without a ramp", x.look(Units.DRIVE), 0);
    }
}
