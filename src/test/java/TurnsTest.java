/** TURNS: when the pattern is read, and what a reading does. */
final class TurnsTest {
    public static void main(String[] args) {
        readAt300000();
        notReadAt299999();
        sumIsOfTheGreaterSpeed();
        sumIsZeroBehindAReading();
        readWhenStopping();
        notReadWhenIdle();
        notReadInAFault();
        patternThatNoRotorHas();
        patternThatNoRotorHasBehindAnother();
        patternThatIsAnotherOne();
        sameOneAgainIsFine();
        onlyTheReadingSeesIt();
        Due.end();
    }

    /** "is READ when the sum, since the run began or the latest reading, is 300,000 or more" */
    private static void readAt300000() {
        CentrifugeUnit x = Units.holding(3000);
        x.tick(99);
        Due.same("at 297,000", x.look(Units.ROTOR), -1);
        x.tick(1);
        Due.same("at 300,000", x.look(Units.ROTOR), 0);
        x.put(-1);
        Due.same("at 597,000", x.tick(99), Units.RUNNING);
        Due.same("at 600,000", x.tick(1), Units.FAULT);
        Due.same("reason", x.look(Units.REASON), 2);
    }

    private static void notReadAt299999() {
        CentrifugeUnit x = Units.holding(3000);
        x.tick(99);
        nextTickAt2999(x);
        Due.same("at 299,999", x.look(Units.ROTOR), -1);
        x.tick(1);
        Due.same("a tick later", x.look(Units.ROTOR), 0);
    }

    private static void nextTickAt2999(CentrifugeUnit x) {
        x.fail(0, 20006);
        x.fail(1, 299);
        x.tick(1);
        Due.same("speed 0", x.look(Units.SPEED_0), 2999);
    }

    /** "the used speed is added to a sum" */
    private static void sumIsOfTheGreaterSpeed() {
        for (int slower = 0; slower < 2; slower++) {
            CentrifugeUnit x = Units.withRotor();
            x.fail(0, slower == 0 ? 20500 : 20000);
            x.fail(1, slower == 1 ? 290 : 300);
            Units.started(x, 1, 100000, 0);
            x.tick(99);
            Due.same("at 297,000", x.look(Units.ROTOR), -1);
            x.tick(1);
            Due.same("at 300,000", x.look(Units.ROTOR), 0);
        }
    }

    /** "(the sum is 0 then)": what was above 300,000 is lost */
    private static void sumIsZeroBehindAReading() {
        CentrifugeUnit x = Units.holding(3000);
        x.tick(99);
        nextTickAt2999(x);
        x.tick(1);
        Due.same("read at 302,998", x.look(Units.ROTOR), 0);
        x.put(-1);
        Units.speed(x, 3000);
        x.tick(99);
        nextTickAt2999(x);
        Due.same("at 299,999 again", x.look(Units.STATE), Units.RUNNING);
        Due.same("a tick later", x.tick(1), Units.FAULT);
    }

    /** "and it is RUNNING or STOPPING" */
    private static void readWhenStopping() {
        CentrifugeUnit x = Units.holding(3000);
        x.tick(50);
        x.stop();
        x.tick(49);
        Due.same("at 297,000", x.look(Units.ROTOR), -1);
        Due.same("at 300,000", x.tick(1), Units.STOPPING);
        Due.same("read", x.look(Units.ROTOR), 0);
        x.put(3);
        Due.same("at 597,000", x.tick(99), Units.STOPPING);
        Due.same("at 600,000", x.tick(1), Units.FAULT);
        Due.same("reason", x.look(Units.REASON), 2);
    }

    private static void notReadWhenIdle() {
        CentrifugeUnit x = Units.withRotor();
        Units.speed(x, 3000);
        x.tick(500);
        Due.same("rotor read", x.look(Units.ROTOR), -1);
    }

    private static void notReadInAFault() {
        CentrifugeUnit x = Units.faulty();
        Units.speed(x, 3000);
        x.tick(500);
        Due.same("rotor read", x.look(Units.ROTOR), -1);
        Due.same("reason", x.look(Units.REASON), 1);
    }

    /** "a pattern was read that no rotor has" */
    private static void patternThatNoRotorHas() {
        CentrifugeUnit x = Units.holding(3000);
        x.put(-1);
        Due.same("at 297,000", x.tick(99), Units.RUNNING);
        Due.same("at 300,000", x.tick(1), Units.FAULT);
        Due.same("reason", x.look(Units.REASON), 2);
        Due.same("rotor read", x.look(Units.ROTOR), -1);
    }

    /** "a pattern was read that no rotor has": no rotor's pattern was read but the first one's */
    private static void patternThatNoRotorHasBehindAnother() {
        CentrifugeUnit x = Units.holding(3000);
        x.tick(100);
        x.put(2);
        Due.same("at the second reading", x.tick(100), Units.FAULT);
        Due.same("reason", x.look(Units.REASON), 2);
        Due.same("rotor read", x.look(Units.ROTOR), 0);
        Due.same("force()", x.force(), 1118L * 250 * 9_000_000 / 1_000_000);
    }

    private static CentrifugeUnit withTwoRotors() {
        CentrifugeUnit x = Units.withRotor();
        x.rotor(1, 9, 100, 5000, 50);
        Units.speed(x, 3000);
        Units.started(x, 1, 100000, 0);
        x.tick(100);
        return x;
    }

    /** "or another one than the first one read in this run (2)" */
    private static void patternThatIsAnotherOne() {
        CentrifugeUnit x = withTwoRotors();
        x.tick(100);
        x.put(1);
        Due.same("before the third reading", x.tick(99), Units.RUNNING);
        Due.same("at the third reading", x.tick(1), Units.FAULT);
        Due.same("reason", x.look(Units.REASON), 2);
        Due.same("the first one stays the one read", x.look(Units.ROTOR), 0);
        Due.same("no dose of the fault's tick", x.dose(), 200L * 250 * 9_000_000);
        Units.speed(x, 0);
        x.tick(25);
        x.start();
        Units.speed(x, 3000);
        Due.same("the first one of the next run", x.tick(200), Units.RUNNING);
        Due.same("rotor read", x.look(Units.ROTOR), 1);
    }

    private static void sameOneAgainIsFine() {
        CentrifugeUnit x = Units.holding(3000);
        Due.same("ten readings", x.tick(1000), Units.RUNNING);
        Due.same("rotor read", x.look(Units.ROTOR), 0);
    }

    private static void onlyTheReadingSeesIt() {
        CentrifugeUnit x = withTwoRotors();
        x.put(1);
        x.tick(99);
        x.put(0);
        Due.same("the first one is in at the second reading", x.tick(1), Units.RUNNING);
    }
}
