import java.util.ArrayList;
import java.util.List;
import java.util.function.Consumer;
import java.util.function.LongSupplier;
import java.util.function.Supplier;

/** A refused call changes nothing: two machines go on alike when one of them had it. */
final class RefusedTest {
    private static final int FUTURES = 4;

    private static int refused = 0;

    public static void main(String[] args) {
        for (Supplier<CentrifugeUnit> state : states()) {
            List<Consumer<CentrifugeUnit>> calls = calls();
            for (int i = 0; i < calls.size(); i++) {
                for (int f = 0; f < FUTURES; f++) {
                    changesNothing(state, calls.get(i), i, f);
                }
            }
        }
        Due.isTrue("many calls were refused: " + refused, refused > 1000);
        Due.end();
    }

    private static List<Supplier<CentrifugeUnit>> states() {
        List<Supplier<CentrifugeUnit>> all = new ArrayList<>();
        all.add(CentrifugeUnit::new);
        all.add(RefusedTest::full);
        all.add(RefusedTest::opening);
        all.add(RefusedTest::reading);
        all.add(() -> Units.at(1000, 4, 1000, 0, 1, 5, 0));
        all.add(Units::stopping);
        all.add(Units::faulty);
        all.add(Units::ended);
        all.add(Units::unpowered);
        all.add(RefusedTest::unpoweredRun);
        return all;
    }

    private static CentrifugeUnit full() {
        CentrifugeUnit x = Units.withRotor();
        for (int i = 0; i < 12; i++) {
            x.segment(1, 2, 0);
        }
        return x;
    }

    /** The coil is fed, and rest is gone. */
    private static CentrifugeUnit opening() {
        CentrifugeUnit x = Units.withRotor();
        x.tick(25);
        x.open();
        x.fail(1, 1);
        x.tick(3);
        return x;
    }

    private static CentrifugeUnit reading() {
        CentrifugeUnit x = Units.at(3000, 0, 2900, 50, 1, 100, 0);
        x.tick(110);
        return x;
    }

    private static CentrifugeUnit unpoweredRun() {
        CentrifugeUnit x = reading();
        x.power(false);
        x.tick(1);
        return x;
    }

    private static List<Consumer<CentrifugeUnit>> calls() {
        List<Consumer<CentrifugeUnit>> all = new ArrayList<>();
        int[][] rotors = {{-1, 9, 20, 100, 1}, {4, 9, 20, 100, 1}, {0, -1, 20, 100, 1}, {0, 256, 20, 100, 1},
            {0, 9, 9, 100, 1}, {0, 9, 301, 100, 1}, {0, 9, 20, 99, 1}, {0, 9, 20, 20001, 1}, {0, 9, 20, 100, 0},
            {0, 9, 20, 100, 1001}, {1, 7, 20, 100, 1}, {0, 9, 20, 100, 1}};
        for (int[] r : rotors) {
            all.add(x -> x.rotor(r[0], r[1], r[2], r[3], r[4]));
        }
        int[][] segments = {{5, 1, 1}, {-2, 1, 1}, {0, -1, 1}, {0, 1, 501}, {1, 0, 0}, {2, 0, 0}, {3, 1, 10},
            {4, 4001, 0}, {1, 1, 0}, {0, 100, 100}, {-1, 0, 0}};
        for (int[] s : segments) {
            all.add(x -> x.segment(s[0], s[1], s[2]));
        }
        all.add(CentrifugeUnit::start);
        all.add(CentrifugeUnit::stop);
        all.add(CentrifugeUnit::open);
        all.add(x -> x.power(true));
        all.add(x -> x.power(false));
        addWrongNumbers(all);
        return all;
    }

    private static void addWrongNumbers(List<Consumer<CentrifugeUnit>> all) {
        for (int wrong : new int[] {Integer.MIN_VALUE, -10_001, -2, 1_000_001, Integer.MAX_VALUE}) {
            all.add(x -> x.put(wrong));
            all.add(x -> x.shake(wrong));
            all.add(x -> x.chamber(wrong));
            all.add(x -> x.fail(wrong, 5));
            all.add(x -> x.fail(0, wrong));
            all.add(x -> x.fail(1, wrong));
            all.add(x -> x.tick(wrong));
            all.add(x -> x.look(wrong));
            all.add(x -> x.record(wrong, 0));
            all.add(x -> x.record(0, wrong));
        }
    }

    private static void changesNothing(Supplier<CentrifugeUnit> state, Consumer<CentrifugeUnit> call, int i, int f) {
        CentrifugeUnit x = state.get();
        try {
            call.accept(x);
            return;
        } catch (RuntimeException e) {
            refused++;
        }
        String without = future(state.get(), f);
        Due.isTrue("call " + i + ", future " + f + ": nothing was changed", future(x, f).equals(without));
    }

    private static String future(CentrifugeUnit x, int f) {
        StringBuilder text = new StringBuilder();
        looks(text, x);
        if (f == 1) {
            does(text, () -> x.power(true));
            does(text, x::stop);
            Units.speed(x, 0);
            answers(text, () -> x.tick(25));
            does(text, x::start);
        } else if (f == 2) {
            answers(text, () -> x.segment(1, 3, 0));
            does(text, x::start);
            Units.speed(x, 3000);
            answers(text, () -> x.tick(100));
        } else if (f == 3) {
            x.bolt(false, true);
            answers(text, () -> x.tick(1));
            does(text, () -> x.rotor(2, 9, 50, 500, 5));
        }
        for (int i = 0; i < 25; i++) {
            answers(text, () -> x.tick(1));
            looks(text, x);
        }
        return text.toString();
    }

    private static void looks(StringBuilder text, CentrifugeUnit x) {
        for (int what = 0; what <= 10; what++) {
            text.append(x.look(what)).append(' ');
        }
        text.append(x.dose()).append(' ').append(x.force()).append(' ').append(x.plant()).append(' ');
        answers(text, () -> x.record(-1, 0));
    }

    private static void does(StringBuilder text, Runnable call) {
        answers(text, () -> {
            call.run();
            return 0;
        });
    }

    private static void answers(StringBuilder text, LongSupplier call) {
        try {
            text.append(call.getAsLong()).append(' ');
        } catch (RuntimeException e) {
            text.append(e.getClass().getSimpleName()).append(' ');
        }
    }
}
