/** Promise 9, and the watch for shaking. */
final class ShakeTest {
    public static void main(String[] args) {
        levelHasBounds();
        refusedOneChangesNothing();
        zeroAtFirst();
        fiveTicksInARow();
        levelThatIsAllowed();
        usedIsTheGreaterSpeed();
        rowIsBroken();
        countedBeforeTheStart();
        longRowBeforeTheStart();
        powerForgetsTheRow();
        watchedWhenStopping();
        Due.end();
    }

    /** "0 .. 100,000)"; "IllegalArgumentException: it is not so" */
    private static void levelHasBounds() {
        CentrifugeUnit x = new CentrifugeUnit();
        for (int level : new int[] {0, 1, 99999, 100000}) {
            Due.taken("shake(" + level + ")", () -> x.shake(level));
        }
        for (int level : new int[] {-1, 100001, Integer.MIN_VALUE, Integer.MAX_VALUE}) {
            Due.refused("shake(" + level + ")", Due.ARGUMENT, () -> x.shake(level));
        }
    }

    private static void refusedOneChangesNothing() {
        CentrifugeUnit x = Units.holding(1000);
        x.shake(100000);
        Due.refused("shake(-1)", Due.ARGUMENT, () -> x.shake(-1));
        Due.same("the level before stays", x.tick(5), Units.FAULT);
        CentrifugeUnit y = Units.holding(1000);
        Due.refused("shake(100001)", Due.ARGUMENT, () -> y.shake(100001));
        Due.same("the level before stays", y.tick(50), Units.RUNNING);
    }

    /** "tells a level from now on (0 at first" */
    private static void zeroAtFirst() {
        Due.same("nothing told", Units.holding(0).tick(50), Units.RUNNING);
    }

    /** "at 5 ticks in a row, with this one (4)" */
    private static void fiveTicksInARow() {
        CentrifugeUnit x = Units.holding(1000);
        x.tick(20);
        x.shake(251);
        Due.same("tick(4)", x.tick(4), Units.RUNNING);
        Due.same("tick(1)", x.tick(1), Units.FAULT);
        Due.same("reason", x.look(Units.REASON), 4);
    }

    private static void shaken(int speed, int level, int want) {
        CentrifugeUnit x = Units.holding(speed);
        x.shake(level);
        Due.same("shake(" + level + ") at " + speed, x.tick(10), want);
    }

    /** "the SHAKING was above 200 + used / 20" */
    private static void levelThatIsAllowed() {
        shaken(0, 200, Units.RUNNING);
        shaken(0, 201, Units.FAULT);
        shaken(60, 203, Units.RUNNING);
        shaken(60, 204, Units.FAULT);
        shaken(1000, 250, Units.RUNNING);
        shaken(1000, 251, Units.FAULT);
        shaken(3000, 350, Units.RUNNING);
        shaken(3000, 351, Units.FAULT);
        shaken(3000, 100000, Units.FAULT);
    }

    private static void usedIsTheGreaterSpeed() {
        for (int sensor = 0; sensor < 2; sensor++) {
            CentrifugeUnit x = Units.holding(1000);
            x.fail(sensor, sensor == 0 ? 62500 : 96);
            x.shake(250);
            Due.same("960 of one, 1,000 of the other", x.tick(10), Units.RUNNING);
        }
    }

    /** "in a row" */
    private static void rowIsBroken() {
        CentrifugeUnit x = Units.holding(1000);
        x.shake(300);
        x.tick(4);
        x.shake(250);
        x.tick(1);
        x.shake(300);
        Due.same("4 more behind a quiet one", x.tick(4), Units.RUNNING);
        Due.same("a 5th", x.tick(1), Units.FAULT);
        CentrifugeUnit y = Units.holding(1000);
        y.shake(300);
        y.tick(4);
        Units.speed(y, 2000);
        Due.same("a faster tick may shake more", y.tick(1), Units.RUNNING);
        Units.speed(y, 1000);
        Due.same("4 more", y.tick(4), Units.RUNNING);
    }

    /** "(counted in all states ..; a start does not touch them)" */
    private static void countedBeforeTheStart() {
        CentrifugeUnit x = Units.withRotor();
        Units.speed(x, 1000);
        x.shake(300);
        Due.same("idle", x.tick(4), Units.IDLE);
        Units.started(x, 1, 10, 0);
        Due.same("the first tick of the run", x.tick(1), Units.FAULT);
        Due.same("reason", x.look(Units.REASON), 4);
    }

    private static void longRowBeforeTheStart() {
        CentrifugeUnit x = Units.withRotor();
        Units.speed(x, 1000);
        x.shake(300);
        x.tick(50);
        Units.started(x, 1, 100, 0);
        Due.same("the first tick of the run", x.tick(1), Units.FAULT);
        Due.same("reason", x.look(Units.REASON), 4);
    }

    /** "from 0 when power goes or comes, as are the ticks in a row of 4 and 5" */
    private static void powerForgetsTheRow() {
        CentrifugeUnit x = Units.withRotor();
        Units.speed(x, 1000);
        x.shake(300);
        x.tick(10);
        x.power(false);
        x.tick(10);
        x.power(true);
        Units.started(x, 1, 10, 0);
        Due.same("4 ticks behind the power", x.tick(4), Units.RUNNING);
        Due.same("the 5th", x.tick(1), Units.FAULT);
    }

    private static void watchedWhenStopping() {
        CentrifugeUnit x = Units.stopping();
        x.shake(300);
        Due.same("tick(4)", x.tick(4), Units.STOPPING);
        Due.same("tick(1)", x.tick(1), Units.FAULT);
        Due.same("reason", x.look(Units.REASON), 4);
    }
}
