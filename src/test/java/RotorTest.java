/** Promise 2, and the ROTORS of the terms. */
final class RotorTest {
    public static void main(String[] args) {
        placeIsOneOfFour();
        patternIsAByte();
        radiusHasBounds();
        limitHasBounds();
        inertiaHasBounds();
        noTwoPatternsAreTheSame();
        ownPatternMayStay();
        patternOfAnOlderTellingIsFree();
        notIdle();
        noPower();
        argumentsComeFirst();
        refusedOnesChangeNothing();
        Due.end();
    }

    private static void told(Class<?> want, int k, int pattern, int radius, int limit, int inertia) {
        CentrifugeUnit x = new CentrifugeUnit();
        Due.refused("rotor(" + k + ", " + pattern + ", " + radius + ", " + limit + ", " + inertia + ")", want,
                () -> x.rotor(k, pattern, radius, limit, inertia));
    }

    /** "ROTORS 0 .. 3" */
    private static void placeIsOneOfFour() {
        for (int k : new int[] {0, 1, 2, 3}) {
            told(null, k, 7, 100, 5000, 50);
        }
        for (int k : new int[] {-1, 4, Integer.MIN_VALUE, Integer.MAX_VALUE}) {
            told(Due.ARGUMENT, k, 7, 100, 5000, 50);
        }
    }

    /** "have a PATTERN (0 .. 255" */
    private static void patternIsAByte() {
        for (int pattern : new int[] {0, 1, 254, 255}) {
            told(null, 0, pattern, 100, 5000, 50);
        }
        for (int pattern : new int[] {-1, 256, Integer.MIN_VALUE, Integer.MAX_VALUE}) {
            told(Due.ARGUMENT, 0, pattern, 100, 5000, 50);
        }
    }

    /** "a RADIUS (10 .. 300)" */
    private static void radiusHasBounds() {
        for (int radius : new int[] {10, 11, 299, 300}) {
            told(null, 0, 7, radius, 5000, 50);
        }
        for (int radius : new int[] {9, 0, -10, 301, Integer.MIN_VALUE, Integer.MAX_VALUE}) {
            told(Due.ARGUMENT, 0, 7, radius, 5000, 50);
        }
    }

    /** "a LIMIT (100 .. 20,000)" */
    private static void limitHasBounds() {
        for (int limit : new int[] {100, 101, 19999, 20000}) {
            told(null, 0, 7, 100, limit, 50);
        }
        for (int limit : new int[] {99, 0, -100, 20001, Integer.MIN_VALUE, Integer.MAX_VALUE}) {
            told(Due.ARGUMENT, 0, 7, 100, limit, 50);
        }
    }

    /** "an INERTIA (1 .. 1,000)" */
    private static void inertiaHasBounds() {
        for (int inertia : new int[] {1, 2, 999, 1000}) {
            told(null, 0, 7, 100, 5000, inertia);
        }
        for (int inertia : new int[] {0, -1, 1001, Integer.MIN_VALUE, Integer.MAX_VALUE}) {
            told(Due.ARGUMENT, 0, 7, 100, 5000, inertia);
        }
    }

    /** "no two the same"; "or another one has the pattern" */
    private static void noTwoPatternsAreTheSame() {
        for (int owner = 0; owner < 4; owner++) {
            CentrifugeUnit x = new CentrifugeUnit();
            x.rotor(owner, 7, 100, 5000, 50);
            for (int k = 0; k < 4; k++) {
                int place = k;
                Due.refused("rotor " + k + " with the pattern of " + owner, k == owner ? null : Due.ARGUMENT,
                        () -> x.rotor(place, 7, 100, 5000, 50));
            }
        }
        CentrifugeUnit all = new CentrifugeUnit();
        for (int k = 0; k < 4; k++) {
            int place = k;
            Due.taken("all four told, " + k, () -> all.rotor(place, place, 10, 100, 1));
        }
        Due.refused("pattern 3 for rotor 0", Due.ARGUMENT, () -> all.rotor(0, 3, 10, 100, 1));
        Due.taken("pattern 4 for rotor 0", () -> all.rotor(0, 4, 10, 100, 1));
    }

    private static void ownPatternMayStay() {
        CentrifugeUnit x = Units.withRotor();
        Due.taken("rotor 0 with its own pattern again", () -> x.rotor(0, 7, 120, 6000, 40));
        Units.started(x, 0, 20000, 500);
        x.tick(1);
        Due.same("plant() with inertia 40", x.plant(), 2500 - 1 - 200);
    }

    private static void patternOfAnOlderTellingIsFree() {
        CentrifugeUnit x = Units.withRotor();
        Due.taken("rotor 0 with another pattern", () -> x.rotor(0, 8, 100, 5000, 50));
        Due.taken("the pattern that is free again", () -> x.rotor(3, 7, 100, 5000, 50));
        Due.refused("the pattern of rotor 3 for 0", Due.ARGUMENT, () -> x.rotor(0, 7, 100, 5000, 50));
    }

    /** "IllegalStateException: not IDLE" */
    private static void notIdle() {
        tellsAgain("RUNNING", Due.STATE, Units.holding(1000));
        tellsAgain("STOPPING", Due.STATE, Units.stopping());
        tellsAgain("FAULT", Due.STATE, Units.faulty());
        tellsAgain("IDLE behind a run", null, Units.ended());
    }

    /** "IllegalStateException: .. or no power" */
    private static void noPower() {
        CentrifugeUnit x = Units.unpowered();
        tellsAgain("no power", Due.STATE, x);
        x.power(true);
        tellsAgain("power again", null, x);
    }

    private static void tellsAgain(String state, Class<?> want, CentrifugeUnit x) {
        Due.refused("rotor in " + state, want, () -> x.rotor(1, 9, 120, 900, 80));
    }

    private static void argumentsComeFirst() {
        for (CentrifugeUnit x : new CentrifugeUnit[] {Units.holding(1000), Units.unpowered()}) {
            Due.refused("wrong radius in a wrong state", Due.ARGUMENT, () -> x.rotor(1, 9, 0, 900, 80));
            Due.refused("pattern taken in a wrong state", Due.ARGUMENT, () -> x.rotor(1, 7, 100, 900, 80));
        }
    }

    private static void refusedOnesChangeNothing() {
        CentrifugeUnit x = Units.withRotor();
        Due.refused("inertia 0", Due.ARGUMENT, () -> x.rotor(0, 9, 100, 5000, 0));
        Due.refused("pattern 7 is still there", Due.ARGUMENT, () -> x.rotor(1, 7, 100, 5000, 50));
        Due.taken("pattern 9 is still free", () -> x.rotor(1, 9, 100, 5000, 50));
        Units.started(x, 0, 20000, 500);
        x.tick(1);
        Due.same("plant() with inertia 50", x.plant(), 2000 - 1 - 200);
    }
}
