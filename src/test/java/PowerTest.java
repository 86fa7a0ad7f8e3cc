/** Promise 12. */
final class PowerTest {
    public static void main(String[] args) {
        refusedWhenItIsSo();
        refusedOneChangesNothing();
        modelGoesOnAlone();
        ordersAreThoseOfATick();
        callsOfTheControlAreRefused();
        otherCallsAreNot();
        idleStaysIdle();
        aRunBecomesAFault();
        restIsCountedAnew();
        sensorsAreNotRead();
        programRotorsAndDoseStay();
        rotorThatIsInStays();
        recordsStay();
        Due.end();
    }

    /** "IllegalStateException: it is so" */
    private static void refusedWhenItIsSo() {
        CentrifugeUnit x = new CentrifugeUnit();
        Due.refused("power(true)", Due.STATE, () -> x.power(true));
        Due.taken("power(false)", () -> x.power(false));
        Due.refused("power(false) again", Due.STATE, () -> x.power(false));
        Due.taken("power(true)", () -> x.power(true));
        Due.refused("power(true) again", Due.STATE, () -> x.power(true));
    }

    private static void refusedOneChangesNothing() {
        CentrifugeUnit x = Units.holding(1000);
        x.tick(1);
        Due.refused("power(true)", Due.STATE, () -> x.power(true));
        Due.same("a run goes on", x.tick(1), Units.RUNNING);
        CentrifugeUnit y = Units.withRotor();
        y.tick(25);
        Due.refused("power(true)", Due.STATE, () -> y.power(true));
        Due.same("rest stays", y.look(Units.REST), 1);
    }

    /** "(ticks go on for the model alone, with drive, brake, coil 0)" */
    private static void modelGoesOnAlone() {
        CentrifugeUnit x = new CentrifugeUnit();
        Units.started(x, 0, 20000, 500);
        x.tick(3);
        Due.same("plant()", x.plant(), 2399);
        x.power(false);
        Due.same("tick(1)", x.tick(1), Units.RUNNING);
        Due.same("plant()", x.plant(), 2198);
        Due.same("drive", x.look(Units.DRIVE), 0);
        Due.same("brake", x.look(Units.BRAKE), 0);
        Due.same("goal stays", x.look(Units.GOAL), 1500);
        CentrifugeUnit y = Units.stopping();
        y.power(false);
        y.tick(1);
        Due.same("no brake of a stop", y.look(Units.BRAKE), 0);
    }

    /** "DRIVE .. BRAKE .. and the COIL .. are the control's orders of this tick": power gives none */
    private static void ordersAreThoseOfATick() {
        CentrifugeUnit x = new CentrifugeUnit();
        Units.started(x, 0, 20000, 500);
        x.tick(1);
        x.power(false);
        Due.same("drive of the latest tick", x.look(Units.DRIVE), 100);
        x.tick(1);
        x.power(true);
        Due.same("state", x.look(Units.STATE), Units.FAULT);
        Due.same("brake of the latest tick", x.look(Units.BRAKE), 0);
        CentrifugeUnit y = Units.ended();
        y.open();
        y.tick(1);
        y.power(false);
        Due.same("coil of the latest tick", y.look(Units.COIL), 1);
        y.tick(1);
        Due.same("coil of a tick without power", y.look(Units.COIL), 0);
    }

    /** "all calls of the control (start, stop, open, segment, rotor) are refused (ISE)" */
    private static void callsOfTheControlAreRefused() {
        CentrifugeUnit idle = Units.unpowered();
        CentrifugeUnit running = Units.holding(1000);
        running.tick(1);
        running.power(false);
        for (CentrifugeUnit x : new CentrifugeUnit[] {idle, running}) {
            Due.refused("start()", Due.STATE, x::start);
            Due.refused("stop()", Due.STATE, x::stop);
            Due.refused("open()", Due.STATE, x::open);
            Due.refused("segment(1, 1, 0)", Due.STATE, () -> x.segment(1, 1, 0));
            Due.refused("segment(-1, 0, 0)", Due.STATE, () -> x.segment(-1, 0, 0));
            Due.refused("rotor(1, 9, 120, 900, 80)", Due.STATE, () -> x.rotor(1, 9, 120, 900, 80));
        }
    }

    private static void otherCallsAreNot() {
        CentrifugeUnit x = Units.unpowered();
        Due.taken("put(0)", () -> x.put(0));
        Due.taken("bolt(true, false)", () -> x.bolt(true, false));
        Due.taken("shake(300)", () -> x.shake(300));
        Due.taken("chamber(100)", () -> x.chamber(100));
        Due.taken("fail(0, -1)", () -> x.fail(0, -1));
        Due.taken("tick(1)", () -> x.tick(1));
        Due.taken("look(0)", () -> x.look(0));
        Due.taken("dose()", x::dose);
        Due.taken("force()", x::force);
        Due.taken("plant()", x::plant);
        Due.taken("record(-1, 0)", () -> x.record(-1, 0));
        x.power(true);
        Units.started(x, 1, 100, 0);
        x.tick(5);
        Due.same("the shaking was told", x.look(Units.REASON), 4);
    }

    /** "On again: IDLE" */
    private static void idleStaysIdle() {
        CentrifugeUnit x = Units.unpowered();
        Due.same("tick(30) without power", x.tick(30), Units.IDLE);
        x.power(true);
        Due.same("state", x.look(Units.STATE), Units.IDLE);
        Due.same("reason", x.look(Units.REASON), 0);
        x.tick(30);
        Due.same("no record", x.record(-1, 0), 0);
        CentrifugeUnit y = Units.ended();
        y.power(false);
        y.power(true);
        Due.same("state behind a run", y.look(Units.STATE), Units.IDLE);
        Due.same("reason of the latest run", y.look(Units.REASON), 11);
    }

    /** "or, if a run was going on, FAULT with reason 12" */
    private static void aRunBecomesAFault() {
        CentrifugeUnit[] all = {Units.holding(1000), Units.stopping(), Units.faulty()};
        for (CentrifugeUnit x : all) {
            int state = x.look(Units.STATE);
            x.power(false);
            Due.same("state without power", x.tick(5), state);
            x.power(true);
            Due.same("state", x.look(Units.STATE), Units.FAULT);
            Due.same("reason", x.look(Units.REASON), 12);
            Due.same("tick(1)", x.tick(1), Units.FAULT);
            Due.same("brake", x.look(Units.BRAKE), 9);
            Units.speed(x, 0);
            Due.same("tick(24)", x.tick(24), Units.FAULT);
            Due.same("tick(1)", x.tick(1), Units.IDLE);
            Due.same("reason of the record", x.record(0, 0), 12);
        }
    }

    /** "rest is counted anew"; "from 0 when power goes or comes" */
    private static void restIsCountedAnew() {
        CentrifugeUnit x = new CentrifugeUnit();
        x.tick(100);
        Due.same("rest", x.look(Units.REST), 1);
        x.power(false);
        Due.same("rest when power goes", x.look(Units.REST), 0);
        x.tick(100);
        Due.same("rest without power", x.look(Units.REST), 0);
        x.power(true);
        x.tick(24);
        Due.same("rest after 24", x.look(Units.REST), 0);
        x.tick(1);
        Due.same("rest after 25", x.look(Units.REST), 1);
    }

    /** "sensors are not read" */
    private static void sensorsAreNotRead() {
        CentrifugeUnit x = new CentrifugeUnit();
        Units.speed(x, 1000);
        x.tick(1);
        x.power(false);
        Units.speed(x, 2000);
        x.tick(10);
        Due.same("speed 0", x.look(Units.SPEED_0), 1000);
        Due.same("speed 1", x.look(Units.SPEED_1), 1000);
        x.power(true);
        x.tick(1);
        Due.same("speed 0 with power", x.look(Units.SPEED_0), 2000);
    }

    /** "The program, rotors and the dose stay." */
    private static void programRotorsAndDoseStay() {
        CentrifugeUnit x = Units.holding(3000);
        x.tick(110);
        long dose = x.dose();
        Due.same("dose", dose, 11L * 250 * 9_000_000);
        x.power(false);
        x.tick(10);
        Due.same("dose without power", x.dose(), dose);
        x.power(true);
        Units.speed(x, 0);
        x.tick(25);
        Due.same("dose behind it", x.dose(), dose);
        Due.same("dose of the record", x.record(0, 1), dose);
        Due.same("greatest speed of the record", x.record(0, 2), 3000);
        Due.refused("the pattern of rotor 0", Due.ARGUMENT, () -> x.rotor(1, 7, 100, 5000, 50));
        Due.same("one segment more", x.segment(1, 1, 0), 2);
    }

    /** "The rotor that is in the machine": power does not take it out */
    private static void rotorThatIsInStays() {
        CentrifugeUnit x = Units.withRotor();
        x.power(false);
        x.power(true);
        Units.speed(x, 3000);
        Units.started(x, 1, 100000, 0);
        Due.same("at its reading", x.tick(100), Units.RUNNING);
        Due.same("rotor read", x.look(Units.ROTOR), 0);
    }

    private static void recordsStay() {
        CentrifugeUnit x = Units.ended();
        x.power(false);
        Due.same("records without power", x.record(-1, 0), 1);
        Due.same("reason without power", x.record(0, 0), 11);
        x.power(true);
        Due.same("records with power", x.record(-1, 0), 1);
    }
}
