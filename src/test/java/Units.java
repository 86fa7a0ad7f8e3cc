/** Machines in the states that the tests begin with. */
final class Units {
    static final int IDLE = 0;
    static final int RUNNING = 1;
    static final int STOPPING = 2;
    static final int FAULT = 3;

    static final int STATE = 0;
    static final int REASON = 1;
    static final int SEGMENT = 2;
    static final int DRIVE = 3;
    static final int BRAKE = 4;
    static final int COIL = 5;
    static final int SPEED_0 = 6;
    static final int SPEED_1 = 7;
    static final int ROTOR = 8;
    static final int REST = 9;
    static final int GOAL = 10;

    private Units() { }

    /** A machine with rotor 0 in it: pattern 7, radius 250, limit 5,000, inertia 50. */
    static CentrifugeUnit withRotor() {
        CentrifugeUnit x = new CentrifugeUnit();
        x.rotor(0, 7, 250, 5000, 50);
        x.put(0);
        return x;
    }

    /** Both sensors tell this speed: 0, or one of 60 or more that divides 60,000,000 and by 10. */
    static void speed(CentrifugeUnit x, int speed) {
        x.fail(0, speed == 0 ? 0 : 60_000_000 / speed);
        x.fail(1, speed / 10);
    }

    /** Started with a program of kind, a, b, kind, a, b .. */
    static CentrifugeUnit started(CentrifugeUnit x, int... program) {
        x.segment(-1, 0, 0);
        for (int i = 0; i < program.length; i += 3) {
            x.segment(program[i], program[i + 1], program[i + 2]);
        }
        x.start();
        return x;
    }

    /** Started with this program, both sensors telling this speed. */
    static CentrifugeUnit at(int speed, int... program) {
        CentrifugeUnit x = withRotor();
        speed(x, speed);
        return started(x, program);
    }

    /** One tick, and what it is to order. */
    static void orders(String what, CentrifugeUnit x, int goal, int drive, int brake) {
        x.tick(1);
        Due.same(what + ", goal", x.look(GOAL), goal);
        Due.same(what + ", drive", x.look(DRIVE), drive);
        Due.same(what + ", brake", x.look(BRAKE), brake);
    }

    /** Running in a hold that ends in no test, at this speed. */
    static CentrifugeUnit holding(int speed) {
        return at(speed, 1, 100_000, 0);
    }

    static CentrifugeUnit stopping() {
        CentrifugeUnit x = holding(1000);
        x.tick(1);
        x.stop();
        x.tick(1);
        return x;
    }

    static CentrifugeUnit faulty() {
        CentrifugeUnit x = holding(1000);
        x.bolt(false, false);
        x.tick(1);
        x.bolt(true, false);
        return x;
    }

    /** IDLE and at rest behind a run that was stopped (reason 11). */
    static CentrifugeUnit ended() {
        CentrifugeUnit x = stopping();
        speed(x, 0);
        x.tick(25);
        return x;
    }

    /** A rotor that is light enough to reach every goal below its limit of 5,000. */
    static CentrifugeUnit light() {
        CentrifugeUnit x = new CentrifugeUnit();
        x.rotor(2, 9, 100, 5000, 20);
        x.put(2);
        return x;
    }

    /** Idle, with a program, without power. */
    static CentrifugeUnit unpowered() {
        CentrifugeUnit x = withRotor();
        x.segment(1, 1, 0);
        x.tick(25);
        x.power(false);
        return x;
    }

    /** A run of a hold of one tick, ended at rest. */
    static void shortRun(CentrifugeUnit x) {
        started(x, 1, 1, 0);
        x.tick(30);
    }
}
