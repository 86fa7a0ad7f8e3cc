/** BRAKE. */
final class BrakeTest {
    public static void main(String[] args) {
        strengths();
        untilItIsSlow();
        untilItStands();
        untilTheGreatestSpeed();
        setsTheGoal();
        Due.end();
    }

    /** "BRAKE: brake b, no drive"; "(1 .. 9)" */
    private static void strengths() {
        for (int b = 1; b <= 9; b++) {
            CentrifugeUnit x = Units.at(1000, 3, 0, b);
            Units.orders("strength " + b, x, 0, 0, b);
        }
    }

    /** "through when used is a or less" */
    private static void untilItIsSlow() {
        CentrifugeUnit x = Units.at(1000, 3, 500, 4, 1, 100, 0);
        Units.orders("fast", x, 0, 0, 4);
        Due.same("at it", x.look(Units.SEGMENT), 0);
        x.fail(0, 119700);
        x.fail(1, 0);
        Units.orders("501", x, 0, 0, 4);
        Due.same("501 is told", x.look(Units.SPEED_0), 501);
        Due.same("at it", x.look(Units.SEGMENT), 0);
        x.fail(0, 120000);
        x.fail(1, 51);
        Units.orders("510 of the commutator", x, 0, 0, 4);
        Due.same("at it", x.look(Units.SEGMENT), 0);
        x.fail(1, 50);
        Units.orders("500", x, 500, 0, 4);
        Due.same("through", x.look(Units.SEGMENT), 1);
    }

    private static void untilItStands() {
        CentrifugeUnit x = Units.at(60, 3, 0, 1, 1, 100, 0);
        x.tick(5);
        Due.same("at 60", x.look(Units.SEGMENT), 0);
        Units.speed(x, 0);
        x.fail(1, 1);
        x.tick(1);
        Due.same("at 10", x.look(Units.SEGMENT), 0);
        x.fail(1, 0);
        x.tick(1);
        Due.same("at 0", x.look(Units.SEGMENT), 1);
    }

    /** "until the used speed is a or less (0 .. 20,000)" */
    private static void untilTheGreatestSpeed() {
        CentrifugeUnit x = Units.at(3000, 3, 20000, 9, 1, 100, 0);
        Units.orders("slow enough at once", x, 20000, 0, 9);
        Due.same("through", x.look(Units.SEGMENT), 1);
    }

    /** "the goal is a then" */
    private static void setsTheGoal() {
        CentrifugeUnit x = Units.at(1000, 0, 1000, 500, 3, 600, 2, 1, 100, 0);
        x.tick(1);
        Units.orders("the goal stays", x, 1000, 0, 2);
        Units.speed(x, 400);
        Units.orders("through", x, 600, 0, 2);
        Units.orders("the hold behind", x, 600, 90, 0);
    }
}
