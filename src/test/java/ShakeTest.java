/** Promise 9, and the watch for shaking. */
final class ShakeTest {
    public static void main(String[] args) {
        edges();
        fiveTicksInARow();
        levelThatIsAllowed();
        rowIsBroken();
        countedBeforeTheStart();
        powerForgetsTheRow();
        watchedWhenStopping();
        Due.end();
    }

    private static void edges() {
        CentrifugeUnit x = new CentrifugeUnit();
        for (int level : new int[] {0, 100000}) {
            Due.taken("shake(" + level + ")", () -> x.shake(level));
        }
        for (int level : new int[] {-1, 100001, Integer.MIN_VALUE, Integer.MAX_VALUE}) {
            Due.refused("shake(" + level + ")", Due.ARGUMENT, () -> x.shake(level));
        }
        CentrifugeUnit y = Units.holding(1000);
        y.shake(100000);
        Due.refused("shake(-1)", Due.ARGUMENT, () -> y.shake(-1));
        Due.same("the level before stays", y.tick(5), Units.FAULT);
    }

    private static void fiveTicksInARow() {
        CentrifugeUnit x = Units.holding(1000);
        x.tick(20);
        x.shake(251);
        Due.same("tick(4)", x.tick(4), Units.RUNNING);
        Due.same("tick(1)", x.tick(1), Units.FAULT);
        Due.same("reason", x.look(Units.REASON), 4);
    }

    private static void levelThatIsAllowed() {
        shaken(0, 200, Units.RUNNING);
        shaken(60, 203, Units.RUNNING);
        shaken(60, 204, Units.FAULT);
        shaken(1000, 250, Units.RUNNING);
        shaken(3000, 350, Units.RUNNING);
        shaken(3000, 351, Units.FAULT);
    }

    private static void shaken(int speed, int level, int want) {
        CentrifugeUnit x = Units.holding(speed);
        x.shake(level);
        Due.same("shake(" + level + ") at " + speed, x.tick(10), want);
    }

    private static void rowIsBroken() {
        CentrifugeUnit x = Units.holding(1000);
        x.shake(300);
        x.tick(4);
        x.shake(250);
        x.tick(1);
        x.shake(300);
        Due.same("4 more behind a quiet one", x.tick(4), Units.RUNNING);
        Due.same("a 5th", x.tick(1), Units.FAULT);
    }

    private static void countedBeforeTheStart() {
        CentrifugeUnit x = Units.withRotor();
        Units.speed(x, 1000);
        x.shake(300);
        Due.same("idle", x.tick(4), Units.IDLE);
        Units.started(x, 1, 10, 0);
        Due.same("the first tick of the run", x.tick(1), Units.FAULT);
        Due.same("reason", x.look(Units.REASON), 4);
    }

    private static void powerForgetsTheRow() {
        CentrifugeUnit x = Units.withRotor();
        Units.speed(x, 1000);
        x.shake(300);
        x.tick(10);
        x.power(false);
        x.tick(10);
        x.power(true);
        Units.started(x, 1, 10, 0);
        Due.same("4 ticks behind the power", x.tick(4), Units.RUNNING);
        Due.same("the 5th", x.tick(1), Units.FAULT);
    }

    private static void watchedWhenStopping() {
        CentrifugeUnit x = Units.stopping();
        x.shake(300);
        Due.same("tick(4)", x.tick(4), Units.STOPPING);
        Due.same("tick(1)", x.tick(1), Units.FAULT);
        Due.same("reason", x.look(Units.REASON), 4);
    }
}
