/** Promise 13: the tick itself, the model, the reading of patterns, faults, dose and rest. */
final class TickTest {
    public static void main(String[] args) {
        edges();
        manyTicksAreManyTimesOne();
        modelGrowsAndFalls();
        modelFollowsTheOrders();
        brakeSlowsTheModel();
        patternIsReadAt300000();
        patternIsNotReadAt299999();
        patternIsReadWhenStopping();
        patternThatNoRotorHas();
        patternThatChanges();
        limitBeforeAndBehindTheReading();
        limitOfTheReadingTick();
        firstFaultWins();
        faultAnswersNoMore();
        doseTakesTheLesserSpeed();
        restEndsARunAtOnce();
        Due.end();
    }

    private static void edges() {
        CentrifugeUnit x = new CentrifugeUnit();
        Due.same("tick(1)", x.tick(1), Units.IDLE);
        Due.same("tick(2000)", x.tick(2000), Units.IDLE);
        for (int n : new int[] {0, -1, 2001, Integer.MIN_VALUE, Integer.MAX_VALUE}) {
            Due.refused("tick(" + n + ")", Due.ARGUMENT, () -> x.tick(n));
        }
        CentrifugeUnit y = new CentrifugeUnit();
        Due.refused("tick(2001)", Due.ARGUMENT, () -> y.tick(2001));
        Due.same("a refused one does nothing", y.look(Units.REST), 0);
    }

    private static void manyTicksAreManyTimesOne() {
        int[] program = {0, 2900, 40, 1, 200, 0, 3, 700, 5, 0, 1500, 13, 1, 50, 0};
        CentrifugeUnit x = Units.started(light(), program);
        CentrifugeUnit y = Units.started(light(), program);
        for (int i = 0; i < 40; i++) {
            for (int j = 0; j < 60; j++) {
                x.tick(1);
            }
            y.tick(60);
            for (int what = 0; what <= 10; what++) {
                Due.same("look(" + what + ")", x.look(what), y.look(what));
            }
            Due.same("plant()", x.plant(), y.plant());
            Due.same("dose()", x.dose(), y.dose());
        }
        Due.same("the program was through", x.record(0, 0), 10);
    }

    /** Light enough that drive 40 and a little reaches every goal of the program. */
    private static CentrifugeUnit light() {
        CentrifugeUnit x = new CentrifugeUnit();
        x.rotor(2, 9, 100, 5000, 20);
        x.put(2);
        return x;
    }

    private static void modelGrowsAndFalls() {
        CentrifugeUnit x = new CentrifugeUnit();
        Units.started(x, 0, 20000, 500);
        long[] want = {800, 1600, 2399, 3198};
        for (long v : want) {
            x.tick(1);
            Due.same("plant()", x.plant(), v);
        }
        Due.same("drive", x.look(Units.DRIVE), 100);
    }

    private static void modelFollowsTheOrders() {
        CentrifugeUnit x = Units.started(light(), 0, 2900, 40, 1, 50, 0, 3, 700, 5, 1, 50, 0);
        boolean driven = false;
        boolean braked = false;
        for (int i = 0; i < 1000; i++) {
            long v = x.plant();
            x.tick(1);
            v += 1000L * x.look(Units.DRIVE) / 20;
            long want = v - v / 2000 - 200 - 10_000L * x.look(Units.BRAKE) / 20;
            Due.same("plant() at tick " + (i + 1), x.plant(), want < 0 ? 0 : want);
            driven |= x.look(Units.DRIVE) > 0;
            braked |= x.look(Units.BRAKE) == 5;
        }
        Due.isTrue("it was driven and braked", driven && braked);
    }

    private static void brakeSlowsTheModel() {
        CentrifugeUnit x = new CentrifugeUnit();
        Units.started(x, 0, 20000, 500);
        x.tick(3);
        x.stop();
        long[] want = {1298, 198, 0, 0};
        for (long v : want) {
            x.tick(1);
            Due.same("plant()", x.plant(), v);
        }
        CentrifugeUnit y = new CentrifugeUnit();
        y.rotor(0, 7, 100, 5000, 700);
        Units.started(y, 0, 20000, 500);
        y.tick(3);
        y.put(0);
        y.stop();
        y.tick(1);
        Due.same("plant() with 90,000 / 700", y.plant(), 2399 - 1 - 200 - 128);
    }

    private static void patternIsReadAt300000() {
        CentrifugeUnit x = Units.holding(3000);
        x.tick(99);
        Due.same("at 297,000", x.look(Units.ROTOR), -1);
        x.tick(1);
        Due.same("at 300,000", x.look(Units.ROTOR), 0);
        x.put(-1);
        Due.same("at 597,000", x.tick(99), Units.RUNNING);
        Due.same("at 600,000", x.tick(1), Units.FAULT);
        Due.same("reason", x.look(Units.REASON), 2);
        CentrifugeUnit y = Units.withRotor();
        y.fail(0, 20000);
        y.fail(1, 299);
        Units.started(y, 1, 100000, 0);
        y.tick(99);
        Due.same("the greater speed at 297,000", y.look(Units.ROTOR), -1);
        y.tick(1);
        Due.same("the greater speed at 300,000", y.look(Units.ROTOR), 0);
    }

    private static void patternIsNotReadAt299999() {
        CentrifugeUnit x = Units.holding(3000);
        x.tick(99);
        nextTickAt2999(x);
        Due.same("at 299,999", x.look(Units.ROTOR), -1);
        x.tick(1);
        Due.same("a tick later", x.look(Units.ROTOR), 0);
        x.put(-1);
        Units.speed(x, 3000);
        x.tick(99);
        nextTickAt2999(x);
        Due.same("at 299,999 again", x.look(Units.STATE), Units.RUNNING);
        Due.same("a tick later", x.tick(1), Units.FAULT);
    }

    private static void nextTickAt2999(CentrifugeUnit x) {
        x.fail(0, 20006);
        x.fail(1, 299);
        x.tick(1);
        Due.same("speed 0", x.look(Units.SPEED_0), 2999);
    }

    private static void patternIsReadWhenStopping() {
        CentrifugeUnit x = Units.holding(3000);
        x.tick(50);
        x.stop();
        x.tick(49);
        Due.same("at 297,000", x.look(Units.ROTOR), -1);
        Due.same("at 300,000", x.tick(1), Units.STOPPING);
        Due.same("read", x.look(Units.ROTOR), 0);
        Due.same("no dose when stopping", x.dose(), 0);
        x.put(3);
        Due.same("at 597,000", x.tick(99), Units.STOPPING);
        Due.same("at 600,000", x.tick(1), Units.FAULT);
        Due.same("reason", x.look(Units.REASON), 2);
    }

    private static void patternThatNoRotorHas() {
        CentrifugeUnit x = Units.holding(3000);
        x.put(-1);
        Due.same("at 297,000", x.tick(99), Units.RUNNING);
        Due.same("at 300,000", x.tick(1), Units.FAULT);
        Due.same("reason", x.look(Units.REASON), 2);
        Due.same("rotor read", x.look(Units.ROTOR), -1);
    }

    private static void patternThatChanges() {
        CentrifugeUnit x = Units.withRotor();
        x.rotor(1, 9, 100, 5000, 50);
        Units.speed(x, 3000);
        Units.started(x, 1, 100000, 0);
        x.tick(100);
        x.put(1);
        x.tick(50);
        x.put(0);
        Due.same("the first one at the second reading", x.tick(50), Units.RUNNING);
        x.put(1);
        Due.same("before the third reading", x.tick(99), Units.RUNNING);
        Due.same("another one at the third reading", x.tick(1), Units.FAULT);
        Due.same("reason", x.look(Units.REASON), 2);
        Due.same("no dose of the fault's tick", x.dose(), 200L * 250 * 9_000_000);
    }

    private static void limitBeforeAndBehindTheReading() {
        CentrifugeUnit x = Units.holding(3000);
        Due.same("3,000 before", x.tick(10), Units.RUNNING);
        x.fail(1, 301);
        Due.same("3,010 before", x.tick(1), Units.FAULT);
        Due.same("reason", x.look(Units.REASON), 3);
        CentrifugeUnit z = Units.holding(3000);
        z.fail(0, 19993);
        Due.same("3,001 before", z.tick(1), Units.FAULT);
        Due.same("3,001 is told", z.look(Units.SPEED_0), 3001);
        CentrifugeUnit y = Units.holding(3000);
        y.tick(100);
        Units.speed(y, 5000);
        Due.same("5,000 behind", y.tick(10), Units.RUNNING);
        y.stop();
        y.fail(1, 501);
        Due.same("5,010 behind", y.tick(1), Units.FAULT);
        Due.same("reason", y.look(Units.REASON), 3);
    }

    private static void limitOfTheReadingTick() {
        CentrifugeUnit x = Units.withRotor();
        x.rotor(1, 9, 120, 2900, 80);
        x.put(1);
        Units.speed(x, 3000);
        Units.started(x, 1, 100000, 0);
        Due.same("before the reading", x.tick(99), Units.RUNNING);
        Due.same("at the reading", x.tick(1), Units.FAULT);
        Due.same("reason", x.look(Units.REASON), 3);
        Due.same("rotor read", x.look(Units.ROTOR), 1);
    }

    /** All five faults are due at tick 100; each is taken away in its turn. */
    private static void firstFaultWins() {
        for (int first = 1; first <= 5; first++) {
            CentrifugeUnit x = new CentrifugeUnit();
            x.rotor(0, 7, 100, first <= 3 ? 100 : 5000, 50);
            x.put(0);
            x.fail(0, 20000);
            x.fail(1, 300);
            Units.started(x, 1, 100000, 0);
            x.tick(90);
            x.fail(1, 200);
            x.tick(5);
            x.shake(first <= 4 ? 5000 : 0);
            x.tick(4);
            x.bolt(first > 1, false);
            if (first <= 2) {
                x.put(-1);
            }
            Due.same("tick 100", x.tick(1), Units.FAULT);
            Due.same("the first fault", x.look(Units.REASON), first);
        }
    }

    private static void faultAnswersNoMore() {
        CentrifugeUnit x = Units.faulty();
        x.shake(100000);
        x.fail(1, 2000);
        Due.same("tick(200)", x.tick(200), Units.FAULT);
        Due.same("reason", x.look(Units.REASON), 1);
        Due.same("nothing is read in a fault", x.look(Units.ROTOR), -1);
        Due.same("drive", x.look(Units.DRIVE), 0);
        Due.same("brake", x.look(Units.BRAKE), 9);
        Due.same("segment", x.look(Units.SEGMENT), -1);
    }

    private static void doseTakesTheLesserSpeed() {
        CentrifugeUnit x = Units.withRotor();
        x.fail(0, 20000);
        x.fail(1, 290);
        Units.started(x, 1, 100000, 0);
        x.tick(100);
        Due.same("dose of the commutator", x.dose(), 250L * 2900 * 2900);
        x.fail(0, 24000);
        x.tick(1);
        Due.same("dose of the tacho", x.dose(), 250L * (2900 * 2900 + 2500 * 2500));
        x.stop();
        x.tick(5);
        Due.same("no more when stopping", x.dose(), 250L * (2900 * 2900 + 2500 * 2500));
    }

    private static void restEndsARunAtOnce() {
        CentrifugeUnit x = Units.withRotor();
        x.tick(25);
        Units.started(x, 1, 1, 0);
        Due.same("through and at rest at one tick", x.tick(1), Units.IDLE);
        Due.same("reason", x.look(Units.REASON), 10);
        Due.same("this tick is braked", x.look(Units.BRAKE), 9);
        Due.same("one record", x.record(-1, 0), 1);
        x.tick(1);
        Due.same("the next one is not", x.look(Units.BRAKE), 0);
        Due.same("still one record", x.record(-1, 0), 1);
        x.start();
        x.bolt(true, true);
        Due.same("a fault at rest", x.tick(1), Units.IDLE);
        Due.same("reason", x.look(Units.REASON), 1);
        Due.same("two records", x.record(-1, 0), 2);
    }
}
