/** Promise 14. */
final class LookTest {
    public static void main(String[] args) {
        edges();
        eachWhat();
        restIsBrokenByEitherSensor();
        worksWithoutPower();
        Due.end();
    }

    private static void edges() {
        CentrifugeUnit x = new CentrifugeUnit();
        for (int what : new int[] {-1, 11, Integer.MIN_VALUE, Integer.MAX_VALUE}) {
            Due.refused("look(" + what + ")", Due.ARGUMENT, () -> x.look(what));
        }
    }

    private static void eachWhat() {
        CentrifugeUnit x = Units.withRotor();
        x.fail(0, 20000);
        x.fail(1, 295);
        Units.started(x, 1, 1, 0, 0, 2000, 70);
        x.tick(101);
        int[] want = {1, 0, 1, 0, 3, 0, 3000, 2950, 0, 0, 2000};
        for (int what = 0; what < want.length; what++) {
            Due.same("look(" + what + ")", x.look(what), want[what]);
        }
    }

    private static void restIsBrokenByEitherSensor() {
        for (int sensor = 0; sensor < 2; sensor++) {
            CentrifugeUnit x = new CentrifugeUnit();
            x.tick(40);
            Due.same("rest", x.look(Units.REST), 1);
            x.fail(sensor, sensor == 0 ? 1000000 : 1);
            x.tick(1);
            Due.same("rest with a speed", x.look(Units.REST), 0);
            x.fail(sensor, 0);
            x.tick(24);
            Due.same("rest after 24", x.look(Units.REST), 0);
            x.tick(1);
            Due.same("rest after 25", x.look(Units.REST), 1);
        }
    }

    private static void worksWithoutPower() {
        CentrifugeUnit x = Units.holding(3000);
        x.tick(100);
        x.power(false);
        x.tick(1);
        int[] want = {1, 0, 0, 0, 0, 0, 3000, 3000, 0, 0, 0};
        for (int what = 0; what < want.length; what++) {
            Due.same("look(" + what + ")", x.look(what), want[what]);
        }
    }
}
