/** Promise 1. */
final class NewObjectTest {
    public static void main(String[] args) {
        everyLook();
        everyNumber();
        noProgram();
        atRestNotYet();
        powerIsOn();
        lidIsLocked();
        noRotorIsTold();
        noRotorIsIn();
        objectsShareNothing();
        Due.end();
    }

    private static void everyLook() {
        int[] want = {0, 0, -1, 0, 0, 0, 0, 0, -1, 0, 0};
        CentrifugeUnit x = new CentrifugeUnit();
        for (int what = 0; what < want.length; what++) {
            Due.same("look(" + what + ")", x.look(what), want[what]);
        }
    }

    private static void everyNumber() {
        CentrifugeUnit x = new CentrifugeUnit();
        Due.same("dose()", x.dose(), 0);
        Due.same("force()", x.force(), 0);
        Due.same("plant()", x.plant(), 0);
        Due.same("record(-1, 0)", x.record(-1, 0), 0);
    }

    /** "no program" */
    private static void noProgram() {
        CentrifugeUnit x = new CentrifugeUnit();
        Due.refused("start() without a program", Due.STATE, x::start);
        Due.same("segment(1, 5, 0)", x.segment(1, 5, 0), 1);
    }

    /** "at rest not yet" */
    private static void atRestNotYet() {
        CentrifugeUnit x = new CentrifugeUnit();
        Due.refused("open() at once", Due.STATE, x::open);
        Due.same("tick(24)", x.tick(24), Units.IDLE);
        Due.same("rest after 24", x.look(Units.REST), 0);
        x.tick(1);
        Due.same("rest after 25", x.look(Units.REST), 1);
    }

    /** "power on" */
    private static void powerIsOn() {
        CentrifugeUnit x = new CentrifugeUnit();
        Due.refused("power(true)", Due.STATE, () -> x.power(true));
        Due.taken("power(false)", () -> x.power(false));
    }

    /** "at first locked" */
    private static void lidIsLocked() {
        CentrifugeUnit x = new CentrifugeUnit();
        x.segment(1, 5, 0);
        Due.taken("start() with the lid as it is", x::start);
        Due.same("tick(1)", x.tick(1), Units.RUNNING);
    }

    /** "ROTORS 0 .. 3 (none at first)" */
    private static void noRotorIsTold() {
        for (int pattern = 0; pattern < 256; pattern++) {
            CentrifugeUnit x = new CentrifugeUnit();
            int free = pattern;
            Due.taken("pattern " + pattern, () -> x.rotor(free % 4, free, 10, 100, 1));
        }
    }

    private static void noRotorIsIn() {
        CentrifugeUnit x = new CentrifugeUnit();
        x.rotor(0, 7, 100, 5000, 1);
        Units.started(x, 0, 20000, 500);
        x.tick(1);
        Due.same("plant() with inertia 100", x.plant(), 800);
    }

    private static void objectsShareNothing() {
        CentrifugeUnit x = Units.holding(1000);
        x.tick(5);
        CentrifugeUnit y = new CentrifugeUnit();
        Due.same("state of a second object", y.look(Units.STATE), Units.IDLE);
        Due.same("speed of a second object", y.look(Units.SPEED_1), 0);
        Due.same("program of a second object", y.segment(1, 1, 0), 1);
    }
}
