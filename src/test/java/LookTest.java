/** Promise 14. */
final class LookTest {
    public static void main(String[] args) {
        noSuchWhat();
        eachWhat();
        segmentUnlessRunning();
        rotorBeforeAReading();
        withoutPower();
        Due.end();
    }

    /** "IllegalArgumentException: no such what" */
    private static void noSuchWhat() {
        for (CentrifugeUnit x : new CentrifugeUnit[] {new CentrifugeUnit(), Units.holding(1000), Units.unpowered()}) {
            for (int what = 0; what <= 10; what++) {
                int one = what;
                Due.taken("look(" + what + ")", () -> x.look(one));
            }
            for (int what : new int[] {-1, 11, Integer.MIN_VALUE, Integer.MAX_VALUE}) {
                Due.refused("look(" + what + ")", Due.ARGUMENT, () -> x.look(what));
            }
        }
    }

    private static void looks(String when, CentrifugeUnit x, int... want) {
        for (int what = 0; what < want.length; what++) {
            Due.same(when + ", look(" + what + ")", x.look(what), want[what]);
        }
    }

    private static void eachWhat() {
        CentrifugeUnit x = Units.withRotor();
        x.fail(0, 20000);
        x.fail(1, 295);
        Units.started(x, 1, 1, 0, 0, 2000, 70);
        x.tick(101);
        looks("running", x, 1, 0, 1, 0, 3, 0, 3000, 2950, 0, 0, 2000);
        x.stop();
        x.tick(1);
        looks("stopping", x, 2, 11, -1, 0, 9, 0, 3000, 2950, 0, 0, 2000);
        Units.speed(x, 0);
        x.tick(25);
        looks("idle", x, 0, 11, -1, 0, 9, 0, 0, 0, 0, 1, 2000);
        x.open();
        x.tick(1);
        looks("asked to open", x, 0, 11, -1, 0, 0, 1, 0, 0, 0, 1, 2000);
    }

    /** "2 the segment that it is at (-1 unless RUNNING)" */
    private static void segmentUnlessRunning() {
        Due.same("new", new CentrifugeUnit().look(Units.SEGMENT), -1);
        Due.same("running", Units.holding(1000).look(Units.SEGMENT), 0);
        Due.same("stopping", Units.stopping().look(Units.SEGMENT), -1);
        Due.same("faulty", Units.faulty().look(Units.SEGMENT), -1);
        Due.same("idle", Units.ended().look(Units.SEGMENT), -1);
    }

    /** "8 the rotor whose pattern was read (-1)" */
    private static void rotorBeforeAReading() {
        Due.same("a rotor that is in is not read yet", Units.withRotor().look(Units.ROTOR), -1);
        CentrifugeUnit x = Units.holding(3000);
        x.tick(99);
        Due.same("99 ticks", x.look(Units.ROTOR), -1);
        x.tick(1);
        Due.same("100 ticks", x.look(Units.ROTOR), 0);
    }

    private static void withoutPower() {
        CentrifugeUnit x = Units.holding(3000);
        x.tick(100);
        x.power(false);
        x.tick(1);
        looks("without power", x, 1, 0, 0, 0, 0, 0, 3000, 3000, 0, 0, 0);
    }
}
