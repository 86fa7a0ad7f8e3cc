/** The calls of README.md do what it says beside them. */
final class ReadmeTest {
    public static void main(String[] args) {
        exampleOfUse();
        Due.end();
    }

    private static void exampleOfUse() {
        CentrifugeUnit unit = new CentrifugeUnit();
        unit.rotor(0, 7, 100, 5000, 20);
        unit.put(0);
        unit.segment(0, 2000, 50);
        unit.segment(1, 500, 0);
        unit.segment(3, 0, 5);
        unit.start();
        int calls = 1;
        while (calls < 400 && unit.tick(50) != 0) {
            calls++;
        }
        Due.same("state", unit.look(Units.STATE), Units.IDLE);
        Due.same("reason", unit.record(0, 0), 10);
        Due.isTrue("2,000 turns a minute were reached", unit.record(0, 2) >= 1900);
        Due.isTrue("the rotor was read and a dose gathered", unit.record(0, 1) > 0);
        Due.taken("open()", unit::open);
        unit.tick(10);
        Due.same("the coil is fed", unit.look(Units.COIL), 1);
        unit.tick(1);
        Due.same("for ten ticks", unit.look(Units.COIL), 0);
    }
}
