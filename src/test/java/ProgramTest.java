/** How segment follows segment. */
final class ProgramTest {
    public static void main(String[] args) {
        oneSegmentATick();
        twelveSegments();
        behindTheLastOne();
        nextOneBeginsWithTheNextTick();
        Due.end();
    }

    /** "One segment ends at most at a tick" */
    private static void oneSegmentATick() {
        CentrifugeUnit x = Units.at(0, 3, 0, 1, 3, 0, 2, 0, 0, 1, 4, 4000, 0, 1, 1, 0, 1, 5, 0);
        for (int i = 1; i <= 5; i++) {
            x.tick(1);
            Due.same("segment after tick " + i, x.look(Units.SEGMENT), i);
        }
    }

    /** "a row of up to 12 SEGMENTS" */
    private static void twelveSegments() {
        CentrifugeUnit x = Units.withRotor();
        Units.speed(x, 1000);
        for (int i = 0; i < 12; i++) {
            x.segment(3, 1000 + i, 1 + i % 9);
        }
        x.start();
        for (int i = 0; i < 12; i++) {
            Due.same("segment before tick " + (i + 1), x.look(Units.SEGMENT), i);
            Due.same("state", x.tick(1), i == 11 ? Units.STOPPING : Units.RUNNING);
            Due.same("its own a", x.look(Units.GOAL), 1000 + i);
            Due.same("its own b", x.look(Units.BRAKE), i == 11 ? 9 : 1 + i % 9);
        }
        Due.same("reason", x.look(Units.REASON), 10);
    }

    /** "Behind the last one: STOPPING with reason 10." */
    private static void behindTheLastOne() {
        CentrifugeUnit x = Units.at(1000, 0, 1000, 500, 1, 1, 0);
        x.tick(1);
        Due.same("tick(1)", x.tick(1), Units.STOPPING);
        Due.same("reason", x.look(Units.REASON), 10);
        Due.same("segment", x.look(Units.SEGMENT), -1);
        Due.same("drive", x.look(Units.DRIVE), 0);
        Due.same("brake", x.look(Units.BRAKE), 9);
        Due.same("goal", x.look(Units.GOAL), 1000);
    }

    /** "the next one begins with the next tick" */
    private static void nextOneBeginsWithTheNextTick() {
        CentrifugeUnit x = Units.at(1000, 1, 1, 0, 0, 3000, 100);
        x.tick(1);
        Due.same("goal of the hold", x.look(Units.GOAL), 0);
        Units.speed(x, 500);
        Units.orders("the ramp starts at the speed of its own tick", x, 600, 65, 0);
    }
}
