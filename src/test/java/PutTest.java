/** Promise 3. */
final class PutTest {
    public static void main(String[] args) {
        noSuchRotor();
        refusedOneChangesNothing();
        inertiaIsOfTheOneThatIsIn();
        patternIsOfTheOneThatIsIn();
        noneHasAPatternThatNoRotorHas();
        oneThatIsNotToldIsNone();
        oneThatIsToldLaterIsKnown();
        inEveryState();
        Due.end();
    }

    /** "-1 none"; "IllegalArgumentException: no such rotor" */
    private static void noSuchRotor() {
        CentrifugeUnit x = new CentrifugeUnit();
        for (int k : new int[] {-1, 0, 1, 2, 3}) {
            Due.taken("put(" + k + ")", () -> x.put(k));
        }
        for (int k : new int[] {-2, 4, Integer.MIN_VALUE, Integer.MAX_VALUE}) {
            Due.refused("put(" + k + ")", Due.ARGUMENT, () -> x.put(k));
        }
    }

    private static void refusedOneChangesNothing() {
        CentrifugeUnit x = Units.withRotor();
        Due.refused("put(4)", Due.ARGUMENT, () -> x.put(4));
        Due.refused("put(-2)", Due.ARGUMENT, () -> x.put(-2));
        Units.started(x, 0, 20000, 500);
        x.tick(1);
        Due.same("plant() with inertia 50", x.plant(), 2000 - 1 - 200);
    }

    private static long plantAfterOneTick(int in) {
        CentrifugeUnit x = new CentrifugeUnit();
        x.rotor(0, 7, 100, 5000, 7);
        x.rotor(1, 6, 100, 5000, 1);
        x.rotor(2, 8, 100, 5000, 1000);
        x.put(in);
        Units.started(x, 0, 20000, 500);
        x.tick(1);
        return x.plant();
    }

    /** "The rotor that is in the machine (its pattern and inertia)"; "of none: 100" */
    private static void inertiaIsOfTheOneThatIsIn() {
        Due.same("inertia 7", plantAfterOneTick(0), 14285 - 7 - 200);
        Due.same("inertia 1", plantAfterOneTick(1), 100000 - 50 - 200);
        Due.same("inertia 1,000: growth 100 is all lost", plantAfterOneTick(2), 0);
        Due.same("none", plantAfterOneTick(-1), 800);
        Due.same("not told", plantAfterOneTick(3), 800);
    }

    private static void patternIsOfTheOneThatIsIn() {
        for (int in = 0; in < 4; in++) {
            CentrifugeUnit x = new CentrifugeUnit();
            for (int k = 0; k < 4; k++) {
                x.rotor(k, k == 0 ? 255 : k - 1, 100, 5000, 50);
            }
            x.put(in);
            Units.speed(x, 3000);
            Units.started(x, 1, 100000, 0);
            Due.same("tick(100)", x.tick(100), Units.RUNNING);
            Due.same("rotor read", x.look(Units.ROTOR), in);
        }
    }

    private static void isWrong(String what, CentrifugeUnit x) {
        Units.speed(x, 3000);
        Units.started(x, 1, 100000, 0);
        Due.same(what + ", tick(99)", x.tick(99), Units.RUNNING);
        Due.same(what + ", tick(1)", x.tick(1), Units.FAULT);
        Due.same(what + ", reason", x.look(Units.REASON), 2);
        Due.same(what + ", no rotor was read", x.look(Units.ROTOR), -1);
    }

    /** "-1 none (pattern -1)": not the one of rotors that were not told, either */
    private static void noneHasAPatternThatNoRotorHas() {
        CentrifugeUnit x = Units.withRotor();
        x.put(-1);
        isWrong("none", x);
        isWrong("none, no rotor told", new CentrifugeUnit());
    }

    /** "(it need not be told: then as none)" */
    private static void oneThatIsNotToldIsNone() {
        CentrifugeUnit x = Units.withRotor();
        x.put(3);
        isWrong("not told", x);
    }

    private static void oneThatIsToldLaterIsKnown() {
        CentrifugeUnit x = new CentrifugeUnit();
        x.put(3);
        x.rotor(3, 200, 100, 5000, 50);
        Units.speed(x, 3000);
        Units.started(x, 1, 100000, 0);
        Due.same("tick(100)", x.tick(100), Units.RUNNING);
        Due.same("rotor read", x.look(Units.ROTOR), 3);
    }

    private static void inEveryState() {
        CentrifugeUnit[] all = {Units.holding(1000), Units.stopping(), Units.faulty(), Units.unpowered()};
        for (CentrifugeUnit x : all) {
            Due.taken("put(2)", () -> x.put(2));
        }
        CentrifugeUnit x = new CentrifugeUnit();
        x.rotor(0, 7, 100, 5000, 50);
        Units.started(x, 0, 20000, 500);
        x.tick(1);
        x.put(0);
        x.tick(1);
        Due.same("plant() of both inertias", x.plant(), 800 + 2000 - 1 - 200);
    }
}
