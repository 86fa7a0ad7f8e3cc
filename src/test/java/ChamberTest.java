/** Promise 10, and the pause. */
final class ChamberTest {
    public static void main(String[] args) {
        edges();
        pauseWaitsForTheCold();
        pauseHoldsTheGoal();
        Due.end();
    }

    private static void edges() {
        CentrifugeUnit x = new CentrifugeUnit();
        for (int centi : new int[] {-10000, 0, 10000}) {
            Due.taken("chamber(" + centi + ")", () -> x.chamber(centi));
        }
        for (int centi : new int[] {-10001, 10001, Integer.MIN_VALUE, Integer.MAX_VALUE}) {
            Due.refused("chamber(" + centi + ")", Due.ARGUMENT, () -> x.chamber(centi));
        }
    }

    private static void pauseWaitsForTheCold() {
        CentrifugeUnit x = Units.withRotor();
        Units.started(x, 4, -500, 0, 4, -500, 0, 1, 100, 0);
        x.tick(50);
        Due.same("too warm", x.look(Units.SEGMENT), 0);
        x.chamber(-499);
        x.tick(50);
        Due.same("still too warm", x.look(Units.SEGMENT), 0);
        Due.refused("chamber(-10001)", Due.ARGUMENT, () -> x.chamber(-10001));
        x.tick(1);
        Due.same("a refused one changes nothing", x.look(Units.SEGMENT), 0);
        x.chamber(-500);
        x.tick(1);
        Due.same("cold enough", x.look(Units.SEGMENT), 1);
        x.chamber(-501);
        x.tick(1);
        Due.same("colder", x.look(Units.SEGMENT), 2);
    }

    private static void pauseHoldsTheGoal() {
        CentrifugeUnit x = Units.withRotor();
        Units.speed(x, 500);
        Units.started(x, 0, 600, 500, 4, -500, 0);
        x.tick(1);
        Due.same("at the pause", x.look(Units.SEGMENT), 1);
        x.tick(1);
        Due.same("goal", x.look(Units.GOAL), 600);
        Due.same("drive", x.look(Units.DRIVE), 65);
        Units.speed(x, 1000);
        x.tick(1);
        Due.same("drive above the goal", x.look(Units.DRIVE), 0);
        Due.same("brake above the goal", x.look(Units.BRAKE), 3);
    }
}
