/** Faults: the limit, which fault is the first, and what a fault does. */
final class FaultTest {
    public static void main(String[] args) {
        limitBeforeAReading();
        limitOfTheRotorRead();
        limitsAtTheirBounds();
        limitOfTheReadingTick();
        limitWhenStopping();
        limitIsNotLookedAtWhenIdle();
        firstFaultWins();
        faultIsNotLookedForInAFault();
        faultStopsAtOnce();
        Due.end();
    }

    /** "the used speed is above the LIMIT (..; 3,000 before) (3)" */
    private static void limitBeforeAReading() {
        CentrifugeUnit x = Units.holding(3000);
        Due.same("3,000", x.tick(10), Units.RUNNING);
        x.fail(1, 301);
        Due.same("3,010 of the commutator", x.tick(1), Units.FAULT);
        Due.same("reason", x.look(Units.REASON), 3);
        CentrifugeUnit y = Units.holding(3000);
        y.fail(0, 19993);
        Due.same("3,001 of the tacho", y.tick(1), Units.FAULT);
        Due.same("3,001 is told", y.look(Units.SPEED_0), 3001);
        Due.same("reason", y.look(Units.REASON), 3);
    }

    private static CentrifugeUnit limited(int limit, int speed) {
        CentrifugeUnit x = new CentrifugeUnit();
        x.rotor(0, 7, 100, limit, 50);
        x.put(0);
        Units.speed(x, speed);
        Units.started(x, 1, 100000, 0);
        int half = 150_000 / speed;
        x.tick(half);
        x.tick(half);
        Due.same("limit " + limit + ", read", x.look(Units.ROTOR), 0);
        return x;
    }

    /** "(of the rotor whose pattern was read ..)" */
    private static void limitOfTheRotorRead() {
        CentrifugeUnit x = limited(5000, 3000);
        Units.speed(x, 5000);
        Due.same("5,000 of 5,000", x.tick(10), Units.RUNNING);
        x.fail(1, 501);
        Due.same("5,010 of 5,000", x.tick(1), Units.FAULT);
        Due.same("reason", x.look(Units.REASON), 3);
    }

    private static void limitsAtTheirBounds() {
        CentrifugeUnit x = limited(100, 100);
        Due.same("100 of 100", x.tick(10), Units.RUNNING);
        x.fail(0, 594059);
        Due.same("101 of 100", x.tick(1), Units.FAULT);
        Due.same("101 is told", x.look(Units.SPEED_0), 101);
        Due.same("reason", x.look(Units.REASON), 3);
        CentrifugeUnit y = limited(20000, 3000);
        Units.speed(y, 20000);
        Due.same("20,000 of 20,000", y.tick(10), Units.RUNNING);
        y.fail(1, 2001);
        Due.same("20,010 of 20,000", y.tick(1), Units.FAULT);
        Due.same("reason", y.look(Units.REASON), 3);
    }

    /** The reading is before the faults: its rotor's limit counts at this very tick. */
    private static void limitOfTheReadingTick() {
        CentrifugeUnit x = Units.withRotor();
        x.rotor(1, 9, 120, 2900, 80);
        x.put(1);
        Units.speed(x, 3000);
        Units.started(x, 1, 100000, 0);
        Due.same("before the reading", x.tick(99), Units.RUNNING);
        Due.same("at the reading", x.tick(1), Units.FAULT);
        Due.same("reason", x.look(Units.REASON), 3);
        Due.same("rotor read", x.look(Units.ROTOR), 1);
    }

    private static void limitWhenStopping() {
        CentrifugeUnit x = Units.stopping();
        Units.speed(x, 3000);
        Due.same("3,000", x.tick(1), Units.STOPPING);
        x.fail(1, 301);
        Due.same("3,010", x.tick(1), Units.FAULT);
        Due.same("reason", x.look(Units.REASON), 3);
    }

    private static void limitIsNotLookedAtWhenIdle() {
        CentrifugeUnit x = Units.withRotor();
        Units.speed(x, 20000);
        Due.same("20,000 when idle", x.tick(10), Units.IDLE);
        Due.same("reason", x.look(Units.REASON), 0);
    }

    /** "the first of these that holds": all five hold at tick 100; each is taken away in its turn */
    private static void firstFaultWins() {
        for (int first = 1; first <= 5; first++) {
            CentrifugeUnit x = new CentrifugeUnit();
            x.rotor(0, 7, 100, first <= 3 ? 100 : 5000, 50);
            x.put(0);
            x.fail(0, 20000);
            x.fail(1, 300);
            Units.started(x, 1, 100000, 0);
            x.tick(90);
            x.fail(1, 200);
            x.tick(5);
            x.shake(first <= 4 ? 5000 : 0);
            x.tick(4);
            x.bolt(first > 1, false);
            if (first <= 2) {
                x.put(-1);
            }
            if (first <= 3) {
                x.fail(0, 19000);
            }
            Due.same("tick 100", x.tick(1), Units.FAULT);
            Due.same("the first fault", x.look(Units.REASON), first);
        }
    }

    /** "When RUNNING or STOPPING" */
    private static void faultIsNotLookedForInAFault() {
        CentrifugeUnit x = Units.faulty();
        x.shake(100000);
        x.fail(1, 2000);
        Due.same("tick(200)", x.tick(200), Units.FAULT);
        Due.same("reason", x.look(Units.REASON), 1);
    }

    /** "STOPPING and FAULT: drive 0, brake 9": at the fault's own tick */
    private static void faultStopsAtOnce() {
        CentrifugeUnit x = Units.withRotor();
        Units.speed(x, 1000);
        Units.started(x, 0, 3000, 50);
        x.tick(1);
        Due.same("drive before", x.look(Units.DRIVE), 52);
        x.bolt(false, false);
        Due.same("tick(1)", x.tick(1), Units.FAULT);
        Due.same("drive", x.look(Units.DRIVE), 0);
        Due.same("brake", x.look(Units.BRAKE), 9);
        Due.same("segment", x.look(Units.SEGMENT), -1);
        Due.same("the goal moved no more", x.look(Units.GOAL), 1050);
    }
}
