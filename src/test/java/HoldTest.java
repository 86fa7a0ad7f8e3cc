/** HOLD for ticks and until the dose. */
final class HoldTest {
    public static void main(String[] args) {
        forTicks();
        forTheMostTicks();
        keepsToTheGoal();
        withoutARamp();
        untilTheDose();
        oneLessIsNotEnough();
        untilTheGreatestDose();
        doseThatIsThere();
        keepsToTheGoalForTheDose();
        Due.end();
    }

    /** "for a ticks (this one too)" */
    private static void forTicks() {
        CentrifugeUnit x = Units.at(0, 1, 3, 0, 1, 1, 0, 1, 2, 0);
        int[] want = {0, 0, 1, 2, 2, -1};
        for (int i = 0; i < want.length; i++) {
            x.tick(1);
            Due.same("segment at tick " + (i + 1), x.look(Units.SEGMENT), want[i]);
        }
    }

    /** "1 HOLD for a ticks (1 .. 100,000)" */
    private static void forTheMostTicks() {
        CentrifugeUnit x = Units.at(1000, 1, 100000, 0, 1, 5, 0);
        for (int i = 0; i < 49; i++) {
            x.tick(2000);
        }
        x.tick(1999);
        Due.same("after 99,999", x.look(Units.SEGMENT), 0);
        x.tick(1);
        Due.same("after 100,000", x.look(Units.SEGMENT), 1);
    }

    /** "HOLD: drive and brake as of a ramp with the goal as it is" */
    private static void keepsToTheGoal() {
        CentrifugeUnit x = Units.at(1000, 0, 1000, 500, 1, 100, 0);
        x.tick(1);
        Units.orders("at the goal", x, 1000, 40, 0);
        Units.speed(x, 800);
        Units.orders("below", x, 1000, 90, 0);
        Units.speed(x, 1200);
        Units.orders("200 above", x, 1000, 0, 0);
        x.fail(1, 121);
        Units.orders("210 above", x, 1000, 0, 3);
        Units.speed(x, 0);
        Units.orders("far below", x, 1000, 100, 0);
        x.fail(1, 101);
        Units.orders("a little above", x, 1000, 38, 0);
    }

    /** "(0 when there was no ramp)" */
    private static void withoutARamp() {
        CentrifugeUnit x = Units.at(200, 1, 100, 0);
        Units.orders("200", x, 0, 0, 0);
        x.fail(1, 21);
        Units.orders("210", x, 0, 0, 3);
        Units.speed(x, 0);
        Units.orders("0", x, 0, 0, 0);
    }

    /** "or until the dose is there (looked at behind 3)": 1,000,000,000 a tick from the reading on */
    private static void untilTheDose() {
        CentrifugeUnit x = Units.at(2000, 2, 1, 0, 2, 3, 0, 1, 100, 0);
        x.tick(149);
        Due.same("no dose", x.look(Units.SEGMENT), 0);
        x.tick(1);
        Due.same("dose()", x.dose(), 1_000_000_000L);
        Due.same("one thousand millions", x.look(Units.SEGMENT), 1);
        x.tick(1);
        Due.same("two", x.look(Units.SEGMENT), 1);
        x.tick(1);
        Due.same("three", x.look(Units.SEGMENT), 2);
    }

    /** "is a thousand millions or more": 27 times the squares of three speeds is 999,999,999 */
    private static void oneLessIsNotEnough() {
        CentrifugeUnit x = new CentrifugeUnit();
        x.rotor(0, 7, 27, 20000, 50);
        x.put(0);
        Units.speed(x, 3000);
        Units.started(x, 2, 1, 0, 1, 5, 0);
        x.tick(99);
        x.fail(1, 0);
        x.tick(1);
        Due.same("read", x.look(Units.ROTOR), 0);
        for (int speed : new int[] {6082, 173, 128}) {
            x.fail(0, 60_000_000 / speed);
            x.fail(1, speed / 10 + 1);
            x.tick(1);
        }
        Due.same("dose()", x.dose(), 999_999_999L);
        Due.same("not yet", x.look(Units.SEGMENT), 0);
        x.tick(1);
        Due.same("more", x.look(Units.SEGMENT), 1);
    }

    /** "(a 1 .. 1,000,000)": 2,700,000,000 at the reading, then 120,000,000,000 a tick */
    private static void untilTheGreatestDose() {
        CentrifugeUnit x = new CentrifugeUnit();
        x.rotor(0, 7, 300, 20000, 50);
        x.put(0);
        Units.speed(x, 3000);
        Units.started(x, 2, 1000000, 0, 1, 5, 0);
        x.tick(100);
        Units.speed(x, 20000);
        for (int i = 0; i < 4; i++) {
            x.tick(2000);
        }
        x.tick(333);
        Due.same("dose()", x.dose(), 2_700_000_000L + 8333 * 120_000_000_000L);
        Due.same("not yet", x.look(Units.SEGMENT), 0);
        x.tick(1);
        Due.same("a million thousand millions", x.look(Units.SEGMENT), 1);
    }

    private static void doseThatIsThere() {
        CentrifugeUnit x = Units.at(2000, 1, 160, 0, 2, 1, 0, 2, 11, 0, 1, 5, 0);
        x.tick(160);
        Due.same("dose()", x.dose(), 11_000_000_000L);
        x.tick(1);
        Due.same("more than enough", x.look(Units.SEGMENT), 2);
        x.tick(1);
        Due.same("more than enough again, a tick later", x.look(Units.SEGMENT), 3);
    }

    private static void keepsToTheGoalForTheDose() {
        CentrifugeUnit x = Units.at(2000, 0, 2000, 500, 2, 1000000, 0);
        x.tick(1999);
        Units.orders("a hold for the dose", x, 2000, 40, 0);
        Due.same("far from it", x.look(Units.SEGMENT), 1);
    }
}
