/** Promise 13: how many ticks, and the order of what one does. */
final class TickTest {
    public static void main(String[] args) {
        numberHasBounds();
        refusedOneDoesNothing();
        exactlySoMany();
        answersTheState();
        manyTicksAreManyTimesOne();
        ordersOfIdleAreNone();
        modelMovesBehindTheControl();
        Due.end();
    }

    /** "n ticks (1 .. 2,000)"; "IllegalArgumentException: n is not so" */
    private static void numberHasBounds() {
        CentrifugeUnit x = new CentrifugeUnit();
        Due.same("tick(1)", x.tick(1), Units.IDLE);
        Due.same("tick(2000)", x.tick(2000), Units.IDLE);
        for (int n : new int[] {0, -1, 2001, Integer.MIN_VALUE, Integer.MAX_VALUE}) {
            Due.refused("tick(" + n + ")", Due.ARGUMENT, () -> x.tick(n));
        }
        CentrifugeUnit y = Units.unpowered();
        Due.refused("tick(0) without power", Due.ARGUMENT, () -> y.tick(0));
        Due.refused("tick(2001) without power", Due.ARGUMENT, () -> y.tick(2001));
    }

    private static void refusedOneDoesNothing() {
        CentrifugeUnit x = new CentrifugeUnit();
        Units.started(x, 0, 20000, 500);
        Due.refused("tick(2001)", Due.ARGUMENT, () -> x.tick(2001));
        Due.refused("tick(0)", Due.ARGUMENT, () -> x.tick(0));
        Due.same("plant()", x.plant(), 0);
        Due.same("drive", x.look(Units.DRIVE), 0);
        Due.same("goal", x.look(Units.GOAL), 0);
    }

    private static void exactlySoMany() {
        for (int n : new int[] {1, 2, 1999, 2000}) {
            CentrifugeUnit x = Units.withRotor();
            Units.speed(x, 1000);
            Units.started(x, 1, n, 0);
            Due.same("tick(" + n + ") of a hold for as many", x.tick(n), Units.STOPPING);
            CentrifugeUnit y = Units.withRotor();
            Units.speed(y, 1000);
            Units.started(y, 1, n + 1, 0);
            Due.same("tick(" + n + ") of a hold for one more", y.tick(n), Units.RUNNING);
        }
    }

    /** "n ticks ..: the state" */
    private static void answersTheState() {
        Due.same("IDLE", Units.ended().tick(1), Units.IDLE);
        Due.same("RUNNING", Units.holding(1000).tick(1), Units.RUNNING);
        Due.same("STOPPING", Units.stopping().tick(1), Units.STOPPING);
        Due.same("FAULT", Units.faulty().tick(1), Units.FAULT);
    }

    private static void manyTicksAreManyTimesOne() {
        int[] program = {0, 2900, 40, 1, 200, 0, 3, 700, 5, 0, 1500, 13, 1, 50, 0};
        CentrifugeUnit x = Units.started(Units.light(), program);
        CentrifugeUnit y = Units.started(Units.light(), program);
        for (int i = 0; i < 10; i++) {
            for (int j = 0; j < 30; j++) {
                x.tick(8);
            }
            y.tick(240);
            for (int what = 0; what <= 10; what++) {
                Due.same("look(" + what + ")", x.look(what), y.look(what));
            }
            Due.same("plant()", x.plant(), y.plant());
            Due.same("dose()", x.dose(), y.dose());
        }
        Due.same("the program was through", x.record(0, 0), 10);
    }

    private static void ordersOfIdleAreNone() {
        CentrifugeUnit x = Units.ended();
        Units.speed(x, 3000);
        x.tick(3);
        Due.same("drive", x.look(Units.DRIVE), 0);
        Due.same("brake", x.look(Units.BRAKE), 0);
        Due.same("coil", x.look(Units.COIL), 0);
    }

    /** "At each tick, behind all that the control does": the sensors see the speed of the tick before */
    private static void modelMovesBehindTheControl() {
        CentrifugeUnit x = new CentrifugeUnit();
        x.rotor(0, 7, 100, 5000, 1);
        x.put(0);
        Units.started(x, 0, 20000, 500);
        x.tick(1);
        Due.same("plant() of the first tick", x.plant(), 100000 - 50 - 200);
        Due.same("the first tick saw none of it", x.look(Units.SPEED_1), 0);
        x.tick(1);
        Due.same("the second one does", x.look(Units.SPEED_1), 90);
    }
}
