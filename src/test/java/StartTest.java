/** Promise 5. */
final class StartTest {
    public static void main(String[] args) {
        emptyProgram();
        lidIsNotLocked();
        notIdle();
        noPower();
        restIsNotNeeded();
        reasonDoseAndReading();
        sumBeginsAnew();
        rowsAreNotTouched();
        goalBeginsAtZero();
        programBeginsAnew();
        wrongRotorIsForgotten();
        Due.end();
    }

    /** "start() needs .. a program that is not empty" */
    private static void emptyProgram() {
        CentrifugeUnit x = new CentrifugeUnit();
        Due.refused("start() without a program", Due.STATE, x::start);
        Due.same("state", x.look(Units.STATE), Units.IDLE);
        x.segment(1, 1, 0);
        Due.taken("start() with one", x::start);
        Due.same("state", x.look(Units.STATE), Units.RUNNING);
        Due.same("segment", x.look(Units.SEGMENT), 0);
    }

    /** "start() needs .. LOCKED"; "LOCKED is a without b" */
    private static void lidIsNotLocked() {
        boolean[] contact = {false, true};
        for (boolean a : contact) {
            for (boolean b : contact) {
                CentrifugeUnit x = new CentrifugeUnit();
                x.segment(1, 1, 0);
                x.bolt(a, b);
                Due.refused("start() with bolt(" + a + ", " + b + ")", a && !b ? null : Due.STATE, x::start);
                Due.same("state", x.look(Units.STATE), a && !b ? Units.RUNNING : Units.IDLE);
            }
        }
    }

    /** "start() needs IDLE" */
    private static void notIdle() {
        CentrifugeUnit[] all = {Units.holding(1000), Units.stopping(), Units.faulty()};
        for (CentrifugeUnit x : all) {
            int state = x.look(Units.STATE);
            int reason = x.look(Units.REASON);
            Due.refused("start() in " + state, Due.STATE, x::start);
            Due.same("state", x.look(Units.STATE), state);
            Due.same("reason", x.look(Units.REASON), reason);
        }
    }

    /** "all calls of the control (start, ..) are refused (ISE)" */
    private static void noPower() {
        CentrifugeUnit x = Units.unpowered();
        Due.refused("start() without power", Due.STATE, x::start);
        Due.same("state", x.look(Units.STATE), Units.IDLE);
        x.power(true);
        Due.taken("start() with power", x::start);
    }

    private static void restIsNotNeeded() {
        CentrifugeUnit x = Units.withRotor();
        Units.speed(x, 1000);
        x.tick(1);
        x.segment(1, 5, 0);
        Due.taken("start() at 1,000 turns", x::start);
    }

    /** A run that ended with reason 1, a dose and rotor 0 read, at rest. */
    private static CentrifugeUnit behindARun() {
        CentrifugeUnit x = Units.holding(3000);
        x.tick(150);
        x.bolt(false, false);
        x.tick(1);
        x.bolt(true, false);
        Units.speed(x, 0);
        x.tick(25);
        return x;
    }

    /** "the reason is 0, dose and sums are 0, no pattern read, segment 0" */
    private static void reasonDoseAndReading() {
        CentrifugeUnit x = behindARun();
        Due.same("idle", x.look(Units.STATE), Units.IDLE);
        Due.same("dose stays until the start", x.dose(), 51L * 250 * 9_000_000);
        Due.same("rotor read stays until the start", x.look(Units.ROTOR), 0);
        Due.same("reason stays until the start", x.look(Units.REASON), 1);
        x.start();
        Due.same("dose", x.dose(), 0);
        Due.same("rotor read", x.look(Units.ROTOR), -1);
        Due.same("reason", x.look(Units.REASON), 0);
        Due.same("segment", x.look(Units.SEGMENT), 0);
    }

    private static void sumBeginsAnew() {
        CentrifugeUnit x = behindARun();
        x.start();
        Units.speed(x, 3000);
        Due.same("tick(99)", x.tick(99), Units.RUNNING);
        Due.same("the sum began anew", x.look(Units.ROTOR), -1);
        x.tick(1);
        Due.same("read at 300,000", x.look(Units.ROTOR), 0);
        Due.same("dose of one tick", x.dose(), 250L * 9_000_000);
        CentrifugeUnit y = Units.withRotor();
        Units.speed(y, 3000);
        y.tick(200);
        Units.started(y, 1, 100000, 0);
        y.tick(99);
        Due.same("turns before the run are not of it", y.look(Units.ROTOR), -1);
        y.tick(1);
        Due.same("turns of the run", y.look(Units.ROTOR), 0);
    }

    /** "a start does not touch them": rest here, the others in ShakeTest and DifferTest */
    private static void rowsAreNotTouched() {
        CentrifugeUnit x = Units.withRotor();
        x.segment(1, 1, 0);
        x.tick(24);
        x.start();
        Due.same("rest of 24 ticks", x.look(Units.REST), 0);
        Due.same("the 25th is the first of the run", x.tick(1), Units.IDLE);
    }

    /** "(0 when there was no ramp)": in this run */
    private static void goalBeginsAtZero() {
        CentrifugeUnit x = Units.withRotor();
        Units.speed(x, 500);
        Units.started(x, 0, 600, 500);
        x.tick(1);
        Due.same("goal of the first run", x.look(Units.GOAL), 600);
        Units.speed(x, 0);
        x.tick(25);
        Due.same("idle", x.look(Units.STATE), Units.IDLE);
        Units.started(x, 1, 10, 0);
        x.tick(1);
        Due.same("goal of a run without a ramp", x.look(Units.GOAL), 0);
        Due.same("drive of a run without a ramp", x.look(Units.DRIVE), 0);
    }

    private static void programBeginsAnew() {
        CentrifugeUnit x = Units.withRotor();
        x.tick(25);
        Units.started(x, 1, 1, 0, 1, 3, 0);
        x.tick(3);
        Due.same("at the second segment", x.look(Units.SEGMENT), 1);
        x.stop();
        Due.same("idle", x.tick(1), Units.IDLE);
        x.start();
        Due.same("at the first segment", x.look(Units.SEGMENT), 0);
        x.tick(1);
        Due.same("through the first segment", x.look(Units.SEGMENT), 1);
        Due.same("two ticks of the second", x.tick(2), Units.RUNNING);
        x.stop();
        x.tick(1);
        Units.started(x, 1, 2, 0);
        Due.same("the first tick of a hold", x.tick(1), Units.RUNNING);
        Due.same("the second", x.tick(1), Units.IDLE);
    }

    private static void wrongRotorIsForgotten() {
        CentrifugeUnit x = Units.holding(3000);
        x.put(-1);
        x.tick(100);
        Due.same("wrong rotor", x.look(Units.REASON), 2);
        Units.speed(x, 0);
        x.tick(25);
        Units.started(x, 1, 10, 0);
        Due.same("the next run", x.tick(5), Units.RUNNING);
    }
}
