/** The fault of speeds that differ. */
final class DifferTest {
    public static void main(String[] args) {
        tenTicksInARow();
        differenceThatIsAllowed();
        rowIsBroken();
        countedBeforeTheStart();
        longRowBeforeTheStart();
        powerForgetsTheRow();
        watchedWhenStopping();
        Due.end();
    }

    private static CentrifugeUnit differing(int tacho, int commutator) {
        CentrifugeUnit x = Units.withRotor();
        x.fail(0, tacho == 0 ? 0 : 60_000_000 / tacho);
        x.fail(1, commutator / 10);
        return Units.started(x, 1, 100000, 0);
    }

    /** "at 10 ticks in a row, with this one (5)" */
    private static void tenTicksInARow() {
        CentrifugeUnit x = differing(1000, 790);
        Due.same("tick(9)", x.tick(9), Units.RUNNING);
        Due.same("tick(1)", x.tick(1), Units.FAULT);
        Due.same("reason", x.look(Units.REASON), 5);
        CentrifugeUnit y = differing(0, 2000);
        Due.same("a dead tacho, tick(9)", y.tick(9), Units.RUNNING);
        Due.same("a dead tacho, tick(1)", y.tick(1), Units.FAULT);
        CentrifugeUnit z = differing(2000, 0);
        Due.same("a dead commutator, tick(9)", z.tick(9), Units.RUNNING);
        Due.same("a dead commutator, tick(1)", z.tick(1), Units.FAULT);
    }

    /** "the speeds differ by more than 100 + used / 10" */
    private static void differenceThatIsAllowed() {
        Due.same("1,000 and 800", differing(1000, 800).tick(50), Units.RUNNING);
        Due.same("800 and 980", differing(800, 980).tick(50), Units.RUNNING);
        Due.same("800 and 1,000", differing(800, 1000).tick(50), Units.RUNNING);
        Due.same("800 and 1,010", differing(800, 1010).tick(50), Units.FAULT);
        CentrifugeUnit x = differing(0, 1000);
        x.fail(0, 75093);
        Due.same("799 and 1,000", x.tick(50), Units.FAULT);
        Due.same("799 is told", x.look(Units.SPEED_0), 799);
        Due.same("0 and 110", differing(0, 110).tick(50), Units.RUNNING);
        Due.same("0 and 120", differing(0, 120).tick(50), Units.FAULT);
    }

    /** "in a row" */
    private static void rowIsBroken() {
        CentrifugeUnit x = differing(1000, 700);
        x.tick(9);
        x.fail(1, 100);
        x.tick(1);
        x.fail(1, 70);
        Due.same("9 more", x.tick(9), Units.RUNNING);
        Due.same("a 10th", x.tick(1), Units.FAULT);
    }

    /** "(counted in all states ..; a start does not touch them)" */
    private static void countedBeforeTheStart() {
        CentrifugeUnit x = Units.withRotor();
        x.fail(1, 100);
        Due.same("idle", x.tick(9), Units.IDLE);
        Units.started(x, 1, 100, 0);
        Due.same("the first tick of the run", x.tick(1), Units.FAULT);
        Due.same("reason", x.look(Units.REASON), 5);
    }

    private static void longRowBeforeTheStart() {
        CentrifugeUnit x = Units.withRotor();
        x.fail(1, 100);
        x.tick(50);
        Units.started(x, 1, 100, 0);
        Due.same("the first tick of the run", x.tick(1), Units.FAULT);
        Due.same("reason", x.look(Units.REASON), 5);
    }

    /** "from 0 when power goes or comes, as are the ticks in a row of 4 and 5" */
    private static void powerForgetsTheRow() {
        CentrifugeUnit x = Units.withRotor();
        x.fail(1, 100);
        x.tick(20);
        x.power(false);
        x.power(true);
        Units.started(x, 1, 100, 0);
        Due.same("9 ticks behind the power", x.tick(9), Units.RUNNING);
        Due.same("the 10th", x.tick(1), Units.FAULT);
    }

    private static void watchedWhenStopping() {
        CentrifugeUnit x = Units.stopping();
        x.fail(0, 0);
        Due.same("tick(9)", x.tick(9), Units.STOPPING);
        Due.same("tick(1)", x.tick(1), Units.FAULT);
        Due.same("reason", x.look(Units.REASON), 5);
    }
}
