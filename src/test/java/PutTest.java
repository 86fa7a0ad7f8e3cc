/** Promise 3. */
final class PutTest {
    public static void main(String[] args) {
        edges();
        inertiaIsOfTheOneThatIsIn();
        oneThatIsNotToldIsNone();
        oneThatIsToldLaterIsKnown();
        worksInEveryState();
        patternIsOfTheOneThatIsIn();
        Due.end();
    }

    private static void edges() {
        CentrifugeUnit x = new CentrifugeUnit();
        for (int k = -1; k < 4; k++) {
            int place = k;
            Due.taken("put(" + k + ")", () -> x.put(place));
        }
        for (int k : new int[] {-2, 4, Integer.MIN_VALUE, Integer.MAX_VALUE}) {
            Due.refused("put(" + k + ")", Due.ARGUMENT, () -> x.put(k));
        }
    }

    private static long plantAfterOneTick(int in) {
        CentrifugeUnit x = new CentrifugeUnit();
        x.rotor(0, 7, 100, 5000, 7);
        x.rotor(2, 8, 100, 5000, 1000);
        x.put(in);
        Units.started(x, 0, 20000, 500);
        x.tick(1);
        return x.plant();
    }

    private static void inertiaIsOfTheOneThatIsIn() {
        Due.same("inertia 7", plantAfterOneTick(0), 14285 - 7 - 200);
        Due.same("inertia 1,000: growth 100 is all lost", plantAfterOneTick(2), 0);
        Due.same("none", plantAfterOneTick(-1), 800);
        Due.same("not told", plantAfterOneTick(3), 800);
    }

    private static void oneThatIsNotToldIsNone() {
        CentrifugeUnit x = new CentrifugeUnit();
        x.rotor(0, 7, 100, 5000, 50);
        x.put(3);
        Units.speed(x, 3000);
        Units.started(x, 1, 100000, 0);
        Due.same("tick(99)", x.tick(99), Units.RUNNING);
        Due.same("tick(1)", x.tick(1), Units.FAULT);
        Due.same("reason", x.look(Units.REASON), 2);
        Due.same("no rotor was read", x.look(Units.ROTOR), -1);
    }

    private static void oneThatIsToldLaterIsKnown() {
        CentrifugeUnit x = new CentrifugeUnit();
        x.put(3);
        x.rotor(3, 200, 100, 5000, 50);
        Units.speed(x, 3000);
        Units.started(x, 1, 100000, 0);
        Due.same("tick(100)", x.tick(100), Units.RUNNING);
        Due.same("rotor read", x.look(Units.ROTOR), 3);
    }

    private static void worksInEveryState() {
        CentrifugeUnit[] all = {Units.holding(1000), Units.stopping(), Units.faulty(), Units.unpowered()};
        for (CentrifugeUnit x : all) {
            Due.taken("put(2)", () -> x.put(2));
        }
        CentrifugeUnit x = new CentrifugeUnit();
        x.rotor(0, 7, 100, 5000, 50);
        Units.started(x, 0, 20000, 500);
        x.tick(1);
        x.put(0);
        x.tick(1);
        Due.same("plant() of both inertias", x.plant(), 800 + 2000 - 1 - 200);
    }

    private static void patternIsOfTheOneThatIsIn() {
        CentrifugeUnit x = Units.withRotor();
        x.rotor(1, 8, 100, 5000, 50);
        x.put(1);
        Units.speed(x, 3000);
        Units.started(x, 1, 100000, 0);
        x.tick(100);
        Due.same("rotor read", x.look(Units.ROTOR), 1);
    }
}
