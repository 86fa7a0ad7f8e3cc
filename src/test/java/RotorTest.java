/** Promise 2. */
final class RotorTest {
    public static void main(String[] args) {
        edges();
        patternsDiffer();
        refusalChangesNothing();
        statesThatRefuse();
        argumentsComeFirst();
        Due.end();
    }

    private static void edges() {
        told(null, 0, 0, 10, 100, 1);
        told(null, 3, 255, 300, 20000, 1000);
        told(Due.ARGUMENT, -1, 0, 10, 100, 1);
        told(Due.ARGUMENT, 4, 0, 10, 100, 1);
        told(Due.ARGUMENT, 0, -1, 10, 100, 1);
        told(Due.ARGUMENT, 0, 256, 10, 100, 1);
        told(Due.ARGUMENT, 0, 0, 9, 100, 1);
        told(Due.ARGUMENT, 0, 0, 301, 100, 1);
        told(Due.ARGUMENT, 0, 0, 10, 99, 1);
        told(Due.ARGUMENT, 0, 0, 10, 20001, 1);
        told(Due.ARGUMENT, 0, 0, 10, 100, 0);
        told(Due.ARGUMENT, 0, 0, 10, 100, 1001);
        told(Due.ARGUMENT, Integer.MIN_VALUE, 0, 10, 100, 1);
        told(Due.ARGUMENT, Integer.MAX_VALUE, 0, 10, 100, 1);
    }

    private static void told(Class<?> want, int k, int pattern, int radius, int limit, int inertia) {
        CentrifugeUnit x = new CentrifugeUnit();
        Due.refused("rotor(" + k + ", " + pattern + ", " + radius + ", " + limit + ", " + inertia + ")", want,
                () -> x.rotor(k, pattern, radius, limit, inertia));
    }

    private static void patternsDiffer() {
        CentrifugeUnit x = new CentrifugeUnit();
        x.rotor(0, 7, 100, 5000, 50);
        Due.refused("the pattern of rotor 0 for 3", Due.ARGUMENT, () -> x.rotor(3, 7, 100, 5000, 50));
        Due.taken("rotor 0 with its own pattern again", () -> x.rotor(0, 7, 120, 6000, 60));
        Due.taken("rotor 0 with another pattern", () -> x.rotor(0, 8, 100, 5000, 50));
        Due.taken("the pattern that is free again", () -> x.rotor(3, 7, 100, 5000, 50));
        Due.refused("the pattern of rotor 3 for 0", Due.ARGUMENT, () -> x.rotor(0, 7, 100, 5000, 50));
    }

    private static void refusalChangesNothing() {
        CentrifugeUnit x = Units.withRotor();
        Due.refused("inertia 0", Due.ARGUMENT, () -> x.rotor(0, 9, 100, 5000, 0));
        Due.refused("pattern 7 is still there", Due.ARGUMENT, () -> x.rotor(1, 7, 100, 5000, 50));
        Units.started(x, 0, 20000, 500);
        x.tick(1);
        Due.same("plant() with inertia 50", x.plant(), 2000 - 1 - 200);
    }

    private static void statesThatRefuse() {
        tellsAgain("RUNNING", Due.STATE, Units.holding(1000));
        tellsAgain("STOPPING", Due.STATE, Units.stopping());
        tellsAgain("FAULT", Due.STATE, Units.faulty());
        tellsAgain("no power", Due.STATE, Units.unpowered());
        CentrifugeUnit x = Units.unpowered();
        x.power(true);
        tellsAgain("power again", null, x);
    }

    private static void tellsAgain(String state, Class<?> want, CentrifugeUnit x) {
        Due.refused("rotor in " + state, want, () -> x.rotor(1, 9, 120, 900, 80));
    }

    private static void argumentsComeFirst() {
        CentrifugeUnit x = Units.holding(1000);
        Due.refused("wrong radius when running", Due.ARGUMENT, () -> x.rotor(1, 9, 0, 900, 80));
        Due.refused("pattern taken when running", Due.ARGUMENT, () -> x.rotor(1, 7, 100, 900, 80));
    }
}
