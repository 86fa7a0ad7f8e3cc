/** Promise 10, and the pause. */
final class ChamberTest {
    public static void main(String[] args) {
        temperatureHasBounds();
        refusedOneChangesNothing();
        twentyDegreesAtFirst();
        pauseWaitsForTheCold();
        pauseAtItsBounds();
        pauseHoldsTheGoal();
        toldWithoutPower();
        Due.end();
    }

    /** "-10,000 .. 10,000)"; "IllegalArgumentException: it is not so" */
    private static void temperatureHasBounds() {
        CentrifugeUnit x = new CentrifugeUnit();
        for (int centi : new int[] {-10000, 0, 10000}) {
            Due.taken("chamber(" + centi + ")", () -> x.chamber(centi));
        }
        for (int centi : new int[] {-10001, 10001, Integer.MIN_VALUE, Integer.MAX_VALUE}) {
            Due.refused("chamber(" + centi + ")", Due.ARGUMENT, () -> x.chamber(centi));
        }
    }

    private static int segmentAt(int centi, int pause) {
        CentrifugeUnit x = Units.withRotor();
        x.chamber(centi);
        Units.started(x, 4, pause, 0, 1, 100, 0);
        x.tick(1);
        return x.look(Units.SEGMENT);
    }

    private static void refusedOneChangesNothing() {
        CentrifugeUnit x = Units.withRotor();
        x.chamber(1000);
        Units.started(x, 4, 999, 0, 4, 1000, 0, 1, 100, 0);
        Due.refused("chamber(-10001)", Due.ARGUMENT, () -> x.chamber(-10001));
        x.tick(1);
        Due.same("not colder", x.look(Units.SEGMENT), 0);
        x.chamber(999);
        Due.refused("chamber(10001)", Due.ARGUMENT, () -> x.chamber(10001));
        x.tick(1);
        Due.same("not warmer", x.look(Units.SEGMENT), 1);
    }

    /** "from now on (2,000 at first" */
    private static void twentyDegreesAtFirst() {
        CentrifugeUnit x = Units.withRotor();
        Units.started(x, 4, 2000, 0, 4, 1999, 0);
        x.tick(10);
        Due.same("through 2,000, not through 1,999", x.look(Units.SEGMENT), 1);
    }

    /** "PAUSE until the chamber is at a or colder" */
    private static void pauseWaitsForTheCold() {
        CentrifugeUnit x = Units.withRotor();
        Units.started(x, 4, -500, 0, 4, -500, 0, 1, 100, 0);
        x.tick(50);
        Due.same("too warm", x.look(Units.SEGMENT), 0);
        x.chamber(-499);
        x.tick(50);
        Due.same("still too warm", x.look(Units.SEGMENT), 0);
        x.chamber(-500);
        Due.same("no tick yet", x.look(Units.SEGMENT), 0);
        x.tick(1);
        Due.same("cold enough", x.look(Units.SEGMENT), 1);
        x.chamber(-501);
        x.tick(1);
        Due.same("colder", x.look(Units.SEGMENT), 2);
    }

    private static void pauseAtItsBounds() {
        Due.same("4,000 for 4,000", segmentAt(4000, 4000), 1);
        Due.same("4,001 for 4,000", segmentAt(4001, 4000), 0);
        Due.same("10,000 for 4,000", segmentAt(10000, 4000), 0);
        Due.same("-2,000 for -2,000", segmentAt(-2000, -2000), 1);
        Due.same("-1,999 for -2,000", segmentAt(-1999, -2000), 0);
        Due.same("-10,000 for -2,000", segmentAt(-10000, -2000), 1);
    }

    /** "PAUSE: as HOLD" */
    private static void pauseHoldsTheGoal() {
        CentrifugeUnit x = Units.withRotor();
        Units.speed(x, 500);
        Units.started(x, 0, 600, 500, 4, -500, 0);
        x.tick(1);
        Due.same("at the pause", x.look(Units.SEGMENT), 1);
        x.tick(1);
        Due.same("goal", x.look(Units.GOAL), 600);
        Due.same("drive", x.look(Units.DRIVE), 65);
        Units.speed(x, 1000);
        x.tick(1);
        Due.same("drive above the goal", x.look(Units.DRIVE), 0);
        Due.same("brake above the goal", x.look(Units.BRAKE), 3);
    }

    private static void toldWithoutPower() {
        CentrifugeUnit x = Units.unpowered();
        Due.taken("chamber(-500)", () -> x.chamber(-500));
        x.power(true);
        Units.started(x, 4, -500, 0, 1, 10, 0);
        x.tick(1);
        Due.same("cold enough", x.look(Units.SEGMENT), 1);
    }
}
