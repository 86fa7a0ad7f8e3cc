/** REST, and how a run ends at it. */
final class RestTest {
    public static void main(String[] args) {
        twentyFiveTicksInARow();
        eitherSpeedBreaksIt();
        countedWhenIdle();
        countedWhenRunning();
        countedInAFault();
        stoppingBecomesIdle();
        faultBecomesIdle();
        runningStaysRunning();
        atTheVeryTick();
        Due.end();
    }

    /** "REST: both speeds were 0 at 25 ticks in a row, with this one" */
    private static void twentyFiveTicksInARow() {
        CentrifugeUnit x = new CentrifugeUnit();
        for (int i = 1; i <= 30; i++) {
            x.tick(1);
            Due.same("rest at tick " + i, x.look(Units.REST), i >= 25 ? 1 : 0);
        }
        x.tick(2000);
        Due.same("rest long behind", x.look(Units.REST), 1);
    }

    private static void eitherSpeedBreaksIt() {
        for (int sensor = 0; sensor < 2; sensor++) {
            CentrifugeUnit x = new CentrifugeUnit();
            x.tick(40);
            Due.same("rest", x.look(Units.REST), 1);
            x.fail(sensor, sensor == 0 ? 1000000 : 1);
            Due.same("no tick yet", x.look(Units.REST), 1);
            x.tick(1);
            Due.same("rest with a speed", x.look(Units.REST), 0);
            x.fail(sensor, 0);
            x.tick(24);
            Due.same("rest after 24", x.look(Units.REST), 0);
            x.tick(1);
            Due.same("rest after 25", x.look(Units.REST), 1);
        }
    }

    /** "(counted in all states" */
    private static void countedWhenIdle() {
        CentrifugeUnit x = Units.withRotor();
        Units.speed(x, 0);
        x.tick(20);
        Units.started(x, 1, 1, 0);
        Due.same("4 ticks of the run", x.tick(4), Units.STOPPING);
        Due.same("the 5th", x.tick(1), Units.IDLE);
    }

    private static void countedWhenRunning() {
        CentrifugeUnit x = Units.holding(0);
        x.tick(24);
        Due.same("rest at 24", x.look(Units.REST), 0);
        x.stop();
        Due.same("the 25th", x.tick(1), Units.IDLE);
    }

    private static void countedInAFault() {
        CentrifugeUnit x = Units.faulty();
        x.tick(100);
        Units.speed(x, 0);
        Due.same("24 ticks", x.tick(24), Units.FAULT);
        Due.same("the 25th", x.tick(1), Units.IDLE);
    }

    /** "at REST they become IDLE" */
    private static void stoppingBecomesIdle() {
        CentrifugeUnit x = Units.stopping();
        Due.same("never with a speed", x.tick(2000), Units.STOPPING);
        Units.speed(x, 0);
        Due.same("24 ticks", x.tick(24), Units.STOPPING);
        Due.same("brake", x.look(Units.BRAKE), 9);
        Due.same("the 25th", x.tick(1), Units.IDLE);
        Due.same("reason stays", x.look(Units.REASON), 11);
    }

    private static void faultBecomesIdle() {
        CentrifugeUnit x = Units.faulty();
        Due.same("never with a speed", x.tick(2000), Units.FAULT);
        Due.same("drive", x.look(Units.DRIVE), 0);
        Due.same("brake", x.look(Units.BRAKE), 9);
        Units.speed(x, 0);
        Due.same("24 ticks", x.tick(24), Units.FAULT);
        Due.same("the 25th", x.tick(1), Units.IDLE);
        Due.same("reason stays", x.look(Units.REASON), 1);
    }

    private static void runningStaysRunning() {
        CentrifugeUnit x = Units.holding(0);
        Due.same("running at rest", x.tick(100), Units.RUNNING);
        Due.same("rest", x.look(Units.REST), 1);
    }

    /** The orders come before the change of state: this tick is braked, the next one is not. */
    private static void atTheVeryTick() {
        CentrifugeUnit x = Units.withRotor();
        x.tick(25);
        Units.started(x, 1, 1, 0);
        Due.same("through and at rest at one tick", x.tick(1), Units.IDLE);
        Due.same("reason", x.look(Units.REASON), 10);
        Due.same("this tick is braked", x.look(Units.BRAKE), 9);
        Due.same("one record", x.record(-1, 0), 1);
        x.tick(1);
        Due.same("the next one is not", x.look(Units.BRAKE), 0);
        Due.same("still one record", x.record(-1, 0), 1);
        x.start();
        x.bolt(true, true);
        Due.same("a fault at rest", x.tick(1), Units.IDLE);
        Due.same("reason", x.look(Units.REASON), 1);
        Due.same("two records", x.record(-1, 0), 2);
    }
}
