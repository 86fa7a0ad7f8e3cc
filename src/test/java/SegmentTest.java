/** Promise 4. */
final class SegmentTest {
    public static void main(String[] args) {
        edges();
        numbersThatAKindHasNot();
        twelveAtMost();
        emptied();
        statesThatRefuse();
        argumentsComeFirst();
        keptFromRunToRun();
        Due.end();
    }

    private static void edges() {
        said(0, 0, 1, null);
        said(0, 20000, 500, null);
        said(0, -1, 1, Due.ARGUMENT);
        said(0, 20001, 1, Due.ARGUMENT);
        said(0, 0, 0, Due.ARGUMENT);
        said(0, 0, 501, Due.ARGUMENT);
        said(1, 1, 0, null);
        said(1, 100000, 0, null);
        said(1, 0, 0, Due.ARGUMENT);
        said(1, 100001, 0, Due.ARGUMENT);
        said(2, 1, 0, null);
        said(2, 1000000, 0, null);
        said(2, 0, 0, Due.ARGUMENT);
        said(2, 1000001, 0, Due.ARGUMENT);
        said(3, 0, 1, null);
        said(3, 20000, 9, null);
        said(3, -1, 1, Due.ARGUMENT);
        said(3, 20001, 1, Due.ARGUMENT);
        said(3, 0, 0, Due.ARGUMENT);
        said(3, 0, 10, Due.ARGUMENT);
        said(4, -2000, 0, null);
        said(4, 4000, 0, null);
        said(4, -2001, 0, Due.ARGUMENT);
        said(4, 4001, 0, Due.ARGUMENT);
        said(-2, 1, 1, Due.ARGUMENT);
        said(5, 1, 1, Due.ARGUMENT);
        said(Integer.MIN_VALUE, 1, 1, Due.ARGUMENT);
        said(Integer.MAX_VALUE, 1, 1, Due.ARGUMENT);
    }

    private static void said(int kind, int a, int b, Class<?> want) {
        CentrifugeUnit x = new CentrifugeUnit();
        Due.refused("segment(" + kind + ", " + a + ", " + b + ")", want, () -> x.segment(kind, a, b));
        Due.same("how many behind it", x.segment(1, 1, 0), want == null ? 2 : 1);
    }

    private static void numbersThatAKindHasNot() {
        for (int b : new int[] {Integer.MIN_VALUE, -1, 501, Integer.MAX_VALUE}) {
            said(1, 1, b, null);
            said(2, 1, b, null);
            said(4, 1, b, null);
            Due.same("segment(-1, b, b)", new CentrifugeUnit().segment(-1, b, b), 0);
        }
    }

    private static void twelveAtMost() {
        CentrifugeUnit x = new CentrifugeUnit();
        for (int i = 1; i <= 12; i++) {
            Due.same("segment " + i, x.segment(1, i, 0), i);
        }
        Due.refused("a 13th", Due.STATE, () -> x.segment(1, 1, 0));
        Due.refused("a 13th that is wrong", Due.ARGUMENT, () -> x.segment(1, 0, 0));
        Due.same("emptied", x.segment(-1, 0, 0), 0);
        Due.same("one again", x.segment(1, 1, 0), 1);
    }

    private static void emptied() {
        CentrifugeUnit x = new CentrifugeUnit();
        x.segment(1, 1, 0);
        x.segment(-1, 0, 0);
        Due.refused("start() with an emptied program", Due.STATE, x::start);
    }

    private static void statesThatRefuse() {
        CentrifugeUnit[] all = {Units.holding(1000), Units.stopping(), Units.faulty(), Units.unpowered()};
        for (CentrifugeUnit x : all) {
            Due.refused("segment(1, 1, 0)", Due.STATE, () -> x.segment(1, 1, 0));
            Due.refused("segment(-1, 0, 0)", Due.STATE, () -> x.segment(-1, 0, 0));
        }
    }

    private static void argumentsComeFirst() {
        CentrifugeUnit x = Units.holding(1000);
        Due.refused("a wrong one when running", Due.ARGUMENT, () -> x.segment(9, 1, 0));
    }

    private static void keptFromRunToRun() {
        CentrifugeUnit x = Units.withRotor();
        x.tick(25);
        Units.shortRun(x);
        Due.same("one more", x.segment(1, 7, 0), 2);
        x.start();
        x.tick(1);
        Due.same("at the second one", x.look(Units.SEGMENT), 1);
    }
}
