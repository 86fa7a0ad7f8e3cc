/** Promise 13: what the segments do. */
final class ProgramTest {
    public static void main(String[] args) {
        rampUp();
        rampDown();
        rampToZero();
        rampIsThroughWithin100();
        rampBeginsAtTheUsedSpeed();
        holdForTicks();
        holdKeepsToTheGoal();
        holdUntilTheDose();
        brakes();
        brakeSetsTheGoal();
        oneSegmentATick();
        behindTheLastOne();
        Due.end();
    }

    private static CentrifugeUnit at(int speed, int... program) {
        CentrifugeUnit x = Units.withRotor();
        Units.speed(x, speed);
        return Units.started(x, program);
    }

    private static void orders(String what, CentrifugeUnit x, int goal, int drive, int brake) {
        x.tick(1);
        Due.same(what + ", goal", x.look(Units.GOAL), goal);
        Due.same(what + ", drive", x.look(Units.DRIVE), drive);
        Due.same(what + ", brake", x.look(Units.BRAKE), brake);
    }

    private static void rampUp() {
        CentrifugeUnit x = at(0, 0, 1000, 110);
        orders("up", x, 110, 67, 0);
        orders("up", x, 220, 95, 0);
        orders("up", x, 330, 100, 0);
        x.tick(6);
        orders("the end", x, 1000, 100, 0);
        orders("behind the end", x, 1000, 100, 0);
        Due.same("not through", x.look(Units.SEGMENT), 0);
    }

    private static void rampDown() {
        CentrifugeUnit x = at(500, 0, 100, 30);
        orders("down", x, 470, 33, 0);
        orders("down", x, 440, 25, 0);
        orders("down", x, 410, 18, 0);
        CentrifugeUnit y = at(500, 0, 10, 50);
        y.tick(3);
        orders("200 above", y, 300, 0, 0);
        orders("250 above", y, 250, 0, 3);
        CentrifugeUnit z = at(1000, 0, 1, 201);
        orders("201 above", z, 799, 0, 3);
        z.tick(4);
        Due.same("the goal goes no further", z.look(Units.GOAL), 1);
    }

    private static void rampToZero() {
        CentrifugeUnit x = at(100, 0, 0, 60, 1, 100, 0);
        orders("near", x, 40, 25, 0);
        orders("a goal of 0", x, 0, 0, 0);
        Due.same("through", x.look(Units.SEGMENT), 1);
        orders("a hold at 0", x, 0, 0, 0);
        Units.speed(x, 300);
        orders("a hold at 0, too fast", x, 0, 0, 3);
    }

    private static void rampIsThroughWithin100() {
        int[] speeds = {400, 399, 600, 601};
        int[] segments = {1, 0, 1, 0};
        for (int i = 0; i < speeds.length; i++) {
            CentrifugeUnit x = at(500, 0, speeds[i], 500, 1, 100, 0);
            x.tick(1);
            Due.same("ramp from 500 to " + speeds[i], x.look(Units.SEGMENT), segments[i]);
        }
        CentrifugeUnit x = at(500, 0, 600, 99, 1, 100, 0);
        x.tick(1);
        Due.same("the goal is not there yet", x.look(Units.SEGMENT), 0);
        x.tick(1);
        Due.same("the goal is there", x.look(Units.SEGMENT), 1);
    }

    private static void rampBeginsAtTheUsedSpeed() {
        CentrifugeUnit x = Units.withRotor();
        Units.speed(x, 500);
        x.fail(1, 48);
        Units.started(x, 1, 1, 0, 0, 3000, 10);
        x.tick(1);
        x.fail(1, 60);
        orders("the greater speed of its first tick", x, 610, 42, 0);
        x.fail(1, 50);
        orders("the goal goes on from itself", x, 620, 70, 0);
    }

    private static void holdForTicks() {
        CentrifugeUnit x = at(0, 1, 3, 0, 1, 1, 0, 1, 2, 0);
        int[] want = {0, 0, 1, 2, 2, -1};
        for (int i = 0; i < want.length; i++) {
            x.tick(1);
            Due.same("segment at tick " + (i + 1), x.look(Units.SEGMENT), want[i]);
        }
    }

    private static void holdKeepsToTheGoal() {
        CentrifugeUnit x = at(1000, 0, 1000, 500, 1, 100, 0);
        x.tick(1);
        orders("at the goal", x, 1000, 40, 0);
        Units.speed(x, 800);
        orders("below", x, 1000, 90, 0);
        Units.speed(x, 1200);
        orders("200 above", x, 1000, 0, 0);
        x.fail(1, 121);
        orders("210 above", x, 1000, 0, 3);
        Units.speed(x, 0);
        orders("far below", x, 1000, 100, 0);
        x.fail(1, 101);
        orders("a little above", x, 1000, 38, 0);
    }

    /** Radius 250 at 2,000 turns gives 1,000,000,000 a tick, from the reading at tick 150 on. */
    private static void holdUntilTheDose() {
        CentrifugeUnit x = at(2000, 2, 1, 0, 2, 3, 0, 2, 3, 0, 1, 100, 0);
        x.tick(149);
        Due.same("no dose", x.look(Units.SEGMENT), 0);
        x.tick(1);
        Due.same("dose()", x.dose(), 1_000_000_000L);
        Due.same("one thousand millions", x.look(Units.SEGMENT), 1);
        x.tick(1);
        Due.same("two", x.look(Units.SEGMENT), 1);
        x.tick(1);
        Due.same("three", x.look(Units.SEGMENT), 2);
        x.tick(1);
        Due.same("more than three", x.look(Units.SEGMENT), 3);
        CentrifugeUnit y = at(2000, 0, 2000, 500, 2, 1000000, 0);
        y.tick(1999);
        orders("a hold for the dose", y, 2000, 40, 0);
        Due.same("far from a million", y.look(Units.SEGMENT), 1);
    }

    private static void brakes() {
        CentrifugeUnit x = at(1000, 3, 500, 4, 1, 100, 0);
        orders("fast", x, 0, 0, 4);
        Due.same("at it", x.look(Units.SEGMENT), 0);
        x.fail(0, 120000);
        x.fail(1, 51);
        orders("510", x, 0, 0, 4);
        Due.same("at it", x.look(Units.SEGMENT), 0);
        x.fail(1, 50);
        orders("500", x, 500, 0, 4);
        Due.same("through", x.look(Units.SEGMENT), 1);
        CentrifugeUnit y = at(1000, 3, 0, 9);
        orders("strength 9", y, 0, 0, 9);
    }

    private static void brakeSetsTheGoal() {
        CentrifugeUnit x = at(1000, 0, 1000, 500, 3, 600, 2, 1, 100, 0);
        x.tick(1);
        orders("the goal stays", x, 1000, 0, 2);
        Units.speed(x, 400);
        orders("through", x, 600, 0, 2);
        orders("the hold behind", x, 600, 90, 0);
    }

    private static void oneSegmentATick() {
        CentrifugeUnit x = at(0, 3, 0, 1, 3, 0, 2, 0, 0, 1, 4, 4000, 0, 1, 1, 0, 1, 5, 0);
        for (int i = 1; i <= 5; i++) {
            x.tick(1);
            Due.same("segment after tick " + i, x.look(Units.SEGMENT), i);
        }
    }

    private static void behindTheLastOne() {
        CentrifugeUnit x = at(1000, 0, 1000, 500, 1, 1, 0);
        x.tick(1);
        Due.same("tick(1)", x.tick(1), Units.STOPPING);
        Due.same("reason", x.look(Units.REASON), 10);
        Due.same("segment", x.look(Units.SEGMENT), -1);
        Due.same("drive", x.look(Units.DRIVE), 0);
        Due.same("brake", x.look(Units.BRAKE), 9);
        Due.same("goal", x.look(Units.GOAL), 1000);
    }
}
