/** RAMP: its goal, its drive and brake, and when it is through. */
final class RampTest {
    public static void main(String[] args) {
        goalMovesUp();
        goalMovesDown();
        goalGoesNoFurther();
        goalStartsAtTheUsedSpeed();
        slopesAtTheirBounds();
        driveIsTruncated();
        driveIsWithin0And100();
        noDriveAtAGoalOf0();
        brakeAbove200();
        throughWithin100();
        notThroughBeforeTheGoal();
        Due.end();
    }

    /** "moves by the slope towards a with each tick, the first one too" */
    private static void goalMovesUp() {
        CentrifugeUnit x = Units.at(0, 0, 1000, 110);
        Units.orders("up", x, 110, 67, 0);
        Units.orders("up", x, 220, 95, 0);
        Units.orders("up", x, 330, 100, 0);
        x.tick(6);
        Units.orders("the end", x, 1000, 100, 0);
        Units.orders("behind the end", x, 1000, 100, 0);
        Due.same("not through", x.look(Units.SEGMENT), 0);
    }

    private static void goalMovesDown() {
        CentrifugeUnit x = Units.at(500, 0, 100, 30);
        Units.orders("down", x, 470, 33, 0);
        Units.orders("down", x, 440, 25, 0);
        Units.orders("down", x, 410, 18, 0);
    }

    private static void goalGoesNoFurther() {
        CentrifugeUnit x = Units.at(1000, 0, 1, 201);
        x.tick(4);
        Due.same("one step above", x.look(Units.GOAL), 196);
        x.tick(1);
        Due.same("down to 1", x.look(Units.GOAL), 1);
        x.tick(5);
        Due.same("no further", x.look(Units.GOAL), 1);
        CentrifugeUnit y = Units.at(1000, 0, 2000, 300);
        y.tick(3);
        Due.same("one step below", y.look(Units.GOAL), 1900);
        y.tick(1);
        Due.same("up to 2,000", y.look(Units.GOAL), 2000);
        y.tick(5);
        Due.same("no further", y.look(Units.GOAL), 2000);
        CentrifugeUnit z = Units.at(1000, 0, 1000, 500);
        z.tick(1);
        Due.same("it is there at once", z.look(Units.GOAL), 1000);
    }

    /** "its GOAL starts at the used speed when it begins" */
    private static void goalStartsAtTheUsedSpeed() {
        CentrifugeUnit x = Units.withRotor();
        Units.speed(x, 500);
        x.fail(1, 48);
        Units.started(x, 1, 1, 0, 0, 3000, 10);
        x.tick(1);
        x.fail(1, 60);
        Units.orders("the greater speed of its first tick", x, 610, 42, 0);
        x.fail(1, 50);
        Units.orders("the goal goes on from itself", x, 620, 70, 0);
        CentrifugeUnit y = Units.at(500, 0, 600, 500, 0, 3000, 10);
        y.tick(1);
        Due.same("the first ramp's goal", y.look(Units.GOAL), 600);
        Units.orders("a second ramp starts at the used speed too", y, 510, 42, 0);
    }

    /** "by a slope b (1 .. 500 a tick)"; "to a speed a (0 .. 20,000)" */
    private static void slopesAtTheirBounds() {
        CentrifugeUnit x = Units.at(0, 0, 20000, 1);
        x.tick(1999);
        Due.same("1 a tick", x.look(Units.GOAL), 1999);
        CentrifugeUnit y = Units.at(0, 0, 20000, 500);
        y.tick(39);
        Due.same("500 a tick", y.look(Units.GOAL), 19500);
        y.tick(1);
        Due.same("20,000", y.look(Units.GOAL), 20000);
        y.tick(1);
        Due.same("20,000 at most", y.look(Units.GOAL), 20000);
    }

    private static int driveFor(int used, int goal) {
        CentrifugeUnit x = Units.at(1000, 0, 1000, 500, 1, 100, 0);
        x.tick(1);
        Due.same("goal", x.look(Units.GOAL), goal);
        x.fail(0, 60_000_000 / used);
        x.fail(1, 0);
        x.tick(1);
        Due.same("used", x.look(Units.SPEED_0), used);
        return x.look(Units.DRIVE);
    }

    /** "DRIVE is 40 plus (goal - used) / 4 (truncated)" */
    private static void driveIsTruncated() {
        Due.same("drive at the goal", driveFor(1000, 1000), 40);
        Due.same("drive 3 above", driveFor(1003, 1000), 40);
        Due.same("drive 4 above", driveFor(1004, 1000), 39);
        Due.same("drive 3 below", driveFor(997, 1000), 40);
        Due.same("drive 4 below", driveFor(996, 1000), 41);
    }

    /** "within 0 .. 100" */
    private static void driveIsWithin0And100() {
        Due.same("drive 156 above", driveFor(1156, 1000), 1);
        Due.same("drive 160 above", driveFor(1160, 1000), 0);
        Due.same("drive 164 above", driveFor(1164, 1000), 0);
        Due.same("drive 200 above", driveFor(1200, 1000), 0);
        Due.same("drive 236 below", driveFor(764, 1000), 99);
        Due.same("drive 240 below", driveFor(760, 1000), 100);
        Due.same("drive 244 below", driveFor(756, 1000), 100);
        Due.same("drive 940 below", driveFor(60, 1000), 100);
    }

    /** "(0 when a goal of 0 is there)" */
    private static void noDriveAtAGoalOf0() {
        CentrifugeUnit x = Units.at(100, 0, 0, 60, 1, 100, 0);
        Units.orders("near", x, 40, 25, 0);
        Units.orders("a goal of 0", x, 0, 0, 0);
        Due.same("through", x.look(Units.SEGMENT), 1);
        Units.orders("a hold at 0", x, 0, 0, 0);
        CentrifugeUnit y = Units.at(0, 0, 0, 1, 1, 100, 0);
        Units.orders("from 0 to 0", y, 0, 0, 0);
        Due.same("through", y.look(Units.SEGMENT), 1);
    }

    /** "brake 3 when used is above goal by more than 200, and no drive then" */
    private static void brakeAbove200() {
        CentrifugeUnit x = Units.at(500, 0, 10, 50);
        x.tick(3);
        Units.orders("200 above", x, 300, 0, 0);
        Units.orders("250 above", x, 250, 0, 3);
        CentrifugeUnit y = Units.at(1000, 0, 1, 201);
        Units.orders("201 above", y, 799, 0, 3);
        CentrifugeUnit z = Units.at(200, 0, 0, 500, 1, 100, 0);
        Units.orders("200 above a goal of 0", z, 0, 0, 0);
        z.fail(0, 298000);
        Units.orders("201 above a goal of 0", z, 0, 0, 3);
        Due.same("201 is told", z.look(Units.SPEED_0), 201);
    }

    /** "It is through when the goal is a and used within 100 of it." */
    private static void throughWithin100() {
        int[] speeds = {400, 399, 600, 601};
        int[] segments = {1, 0, 1, 0};
        for (int i = 0; i < speeds.length; i++) {
            CentrifugeUnit x = Units.at(500, 0, speeds[i], 500, 1, 100, 0);
            x.tick(1);
            Due.same("ramp from 500 to " + speeds[i], x.look(Units.SEGMENT), segments[i]);
        }
    }

    private static void notThroughBeforeTheGoal() {
        CentrifugeUnit x = Units.at(500, 0, 600, 99, 1, 100, 0);
        x.tick(1);
        Due.same("the goal is not there yet", x.look(Units.SEGMENT), 0);
        x.tick(1);
        Due.same("the goal is there", x.look(Units.SEGMENT), 1);
    }
}
