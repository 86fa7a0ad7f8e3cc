/** "An object is used for at most 512 calls": the last of the longest ones still answers as due. */
final class LongRunTest {
    public static void main(String[] args) {
        longestRun();
        longestIdleness();
        Due.end();
    }

    private static void longestRun() {
        CentrifugeUnit x = new CentrifugeUnit();
        x.rotor(0, 7, 300, 20000, 50);
        x.put(0);
        for (int i = 0; i < 12; i++) {
            x.segment(1, 100000, 0);
        }
        Units.speed(x, 3000);
        x.start();
        x.tick(100);
        Units.speed(x, 20000);
        for (int i = 0; i < 480; i++) {
            x.tick(2000);
        }
        Due.same("state", x.look(Units.STATE), Units.RUNNING);
        Due.same("segment", x.look(Units.SEGMENT), 9);
        Due.same("rotor read", x.look(Units.ROTOR), 0);
        Due.same("dose()", x.dose(), 2_700_000_000L + 960_000 * 120_000_000_000L);
    }

    private static void longestIdleness() {
        CentrifugeUnit x = new CentrifugeUnit();
        x.segment(1, 1, 0);
        x.shake(100000);
        x.fail(0, 1);
        for (int i = 0; i < 250; i++) {
            x.tick(2000);
        }
        x.fail(0, 0);
        for (int i = 0; i < 250; i++) {
            x.tick(2000);
        }
        Due.same("rest", x.look(Units.REST), 1);
        x.start();
        Due.same("shaken for a million ticks", x.tick(1), Units.IDLE);
        Due.same("reason", x.look(Units.REASON), 4);
    }
}
