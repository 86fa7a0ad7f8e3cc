import java.util.Arrays;

/**
 * A centrifuge: programs of ramps, holds, doses and brakes, a speed that two sensors tell, a rotor
 * that is known by its pattern, a watch for shaking, a lid that opens at rest alone, and a model of
 * the machine that all of it drives.
 */
public final class CentrifugeUnit {
    private static final int NONE = -1;

    private static final int IDLE = 0;
    private static final int RUNNING = 1;
    private static final int STOPPING = 2;
    private static final int FAULT = 3;

    private static final int MOST_TICKS = 2_000;

    private final Rotors rotors;
    private final Program program;
    private final Model model;
    private final Sensors sensors;
    private final Lid lid;
    private final Records records;
    private final Control control;

    public CentrifugeUnit() {
        rotors = new Rotors();
        program = new Program();
        model = new Model();
        sensors = new Sensors();
        lid = new Lid();
        records = new Records();
        control = new Control(rotors, program, sensors, lid, records);
    }

    public void rotor(int k, int pattern, int radius, int limit, int inertia)
            throws IllegalArgumentException, IllegalStateException {
        if (!Rotors.allowed(k, pattern, radius, limit, inertia) || rotors.anotherHas(k, pattern)) {
            throw new IllegalArgumentException("no such rotor, or its pattern is taken");
        }
        if (!control.takesOrders(IDLE)) {
            throw new IllegalStateException("a rotor is told when idle, with power");
        }
        rotors.keep(k, pattern, radius, limit, inertia);
    }

    public void put(int k) throws IllegalArgumentException {
        if (k != NONE && !Rotors.exists(k)) {
            throw new IllegalArgumentException("no such rotor");
        }
        rotors.in = k;
    }

    public int segment(int kind, int a, int b) throws IllegalArgumentException, IllegalStateException {
        if (kind != NONE && !Program.allowed(kind, a, b)) {
            throw new IllegalArgumentException("no such segment");
        }
        if (!control.takesOrders(IDLE) || (kind != NONE && program.full())) {
            throw new IllegalStateException("not idle, no power, or the program is full");
        }
        if (kind == NONE) {
            program.count = 0;
        } else {
            program.add(kind, a, b);
        }
        return program.count;
    }

    public void start() throws IllegalStateException {
        if (!control.takesOrders(IDLE) || program.count == 0 || !lid.locked()) {
            throw new IllegalStateException("not idle, no power, no program, or not locked");
        }
        control.beginRun();
    }

    public void stop() throws IllegalStateException {
        if (!control.takesOrders(RUNNING)) {
            throw new IllegalStateException("not running, or no power");
        }
        control.beginStopping(Control.STOPPED);
    }

    public void open() throws IllegalStateException {
        if (!control.takesOrders(IDLE) || !control.watch.atRest()) {
            throw new IllegalStateException("not idle, no power, or not at rest");
        }
        lid.askToOpen();
    }

    public void bolt(boolean a, boolean b) {
        lid.contactA = a;
        lid.contactB = b;
    }

    public void shake(int level) throws IllegalArgumentException {
        if (!within(level, 0, 100_000)) {
            throw new IllegalArgumentException("no such level");
        }
        control.watch.shaking = level;
    }

    public void chamber(int centi) throws IllegalArgumentException {
        if (!within(centi, -10_000, 10_000)) {
            throw new IllegalArgumentException("no such temperature");
        }
        control.chamberCenti = centi;
    }

    public void fail(int sensor, int tells) throws IllegalArgumentException {
        if (!within(sensor, 0, 1) || !within(tells, Sensors.TRUE_ONE, 1_000_000)) {
            throw new IllegalArgumentException("no such sensor or number");
        }
        if (sensor == 0) {
            sensors.tachoTells = tells;
        } else {
            sensors.commutatorTells = tells;
        }
    }

    public void power(boolean on) throws IllegalStateException {
        if (control.powered == on) {
            throw new IllegalStateException("it is so");
        }
        if (on) {
            control.powerComes();
        } else {
            control.powerGoes();
        }
    }

    public int tick(int n) throws IllegalArgumentException {
        if (!within(n, 1, MOST_TICKS)) {
            throw new IllegalArgumentException("not 1 to 2,000 ticks");
        }
        for (int i = 0; i < n; i++) {
            control.order(model);
            model.move(control.drive, control.brake, rotors.inertiaIn());
        }
        return control.state;
    }

    public int look(int what) throws IllegalArgumentException {
        switch (what) {
            case 0: return control.state;
            case 1: return control.reason;
            case 2: return control.state == RUNNING ? control.run.at : NONE;
            case 3: return control.drive;
            case 4: return control.brake;
            case 5: return control.coilFed ? 1 : 0;
            case 6: return sensors.tachoSpeed;
            case 7: return sensors.commutatorSpeed;
            case 8: return control.run.rotorRead;
            case 9: return control.watch.atRest() ? 1 : 0;
            case 10: return control.run.goal;
            default: throw new IllegalArgumentException("nothing to look at");
        }
    }

    public long dose() {
        return control.run.dose;
    }

    public long force() {
        long used = sensors.used;
        return 1_118L * rotors.radiusOf(control.run.rotorRead) * used * used / 1_000_000L;
    }

    public long plant() {
        return model.speed;
    }

    public long record(int k, int what) throws IllegalArgumentException, IndexOutOfBoundsException {
        if (!within(what, 0, 2)) {
            throw new IllegalArgumentException("nothing of a record");
        }
        if (k == NONE) {
            return records.total;
        }
        if (!records.keeps(k)) {
            throw new IndexOutOfBoundsException("no record that is kept");
        }
        return records.entry(k, what);
    }

    private static boolean within(int x, int least, int most) {
        return x >= least && x <= most;
    }

    /** The rotors that were told, and which of them is in the machine. */
    private static final class Rotors {
        static final int PLACES = 4;
        static final int INERTIA_OF_NONE = 100;
        static final int LIMIT_OF_NONE = 3_000;

        final int[] patterns = new int[PLACES];
        final int[] radii = new int[PLACES];
        final int[] limits = new int[PLACES];
        final int[] inertias = new int[PLACES];
        int in = NONE;

        /** A rotor that was never told counts as none: its rows hold what no rotor has. */
        Rotors() {
            Arrays.fill(patterns, NONE);
            Arrays.fill(inertias, INERTIA_OF_NONE);
        }

        static boolean exists(int k) {
            return within(k, 0, PLACES - 1);
        }

        static boolean allowed(int k, int pattern, int radius, int limit, int inertia) {
            return exists(k)
                    && within(pattern, 0, 255)
                    && within(radius, 10, 300)
                    && within(limit, 100, 20_000)
                    && within(inertia, 1, 1_000);
        }

        boolean anotherHas(int k, int pattern) {
            int owner = withPattern(pattern);
            return owner != NONE && owner != k;
        }

        void keep(int k, int pattern, int radius, int limit, int inertia) {
            patterns[k] = pattern;
            radii[k] = radius;
            limits[k] = limit;
            inertias[k] = inertia;
        }

        int withPattern(int pattern) {
            for (int k = 0; k < PLACES; k++) {
                // The pattern of no rotor stands in the rows of all that were not told.
                if (pattern != NONE && patterns[k] == pattern) {
                    return k;
                }
            }
            return NONE;
        }

        int patternIn() {
            return exists(in) ? patterns[in] : NONE;
        }

        int inertiaIn() {
            return exists(in) ? inertias[in] : INERTIA_OF_NONE;
        }

        int radiusOf(int k) {
            return exists(k) ? radii[k] : 0;
        }

        int limitOf(int k) {
            return exists(k) ? limits[k] : LIMIT_OF_NONE;
        }
    }

    /** The row of segments. */
    private static final class Program {
        static final int PLACES = 12;

        static final int RAMP = 0;
        static final int HOLD_TICKS = 1;
        static final int HOLD_DOSE = 2;
        static final int BRAKE = 3;
        static final int PAUSE = 4;

        final int[] kinds = new int[PLACES];
        final int[] firsts = new int[PLACES];
        final int[] seconds = new int[PLACES];
        int count;

        static boolean allowed(int kind, int a, int b) {
            switch (kind) {
                case RAMP: return within(a, 0, 20_000) && within(b, 1, 500);
                case HOLD_TICKS: return within(a, 1, 100_000);
                case HOLD_DOSE: return within(a, 1, 1_000_000);
                case BRAKE: return within(a, 0, 20_000) && within(b, 1, 9);
                case PAUSE: return within(a, -2_000, 4_000);
                default: return false;
            }
        }

        boolean full() {
            return count >= PLACES;
        }

        void add(int kind, int a, int b) {
            if (full()) {
                return;
            }
            kinds[count] = kind;
            firsts[count] = a;
            seconds[count] = b;
            count++;
        }

        boolean has(int at) {
            return at >= 0 && at < count;
        }
    }

    /** The machine itself: its true speed, in thousandths of a turn a minute. */
    private static final class Model {
        static final long SLOWEST_TACHO = 60_000L;

        long speed;

        void move(int drive, int brake, int inertia) {
            long weight = Math.max(1, inertia);
            speed += 1_000L * drive / weight;
            long drag = speed / 2_000L + 200L;
            long braking = 10_000L * brake / weight;
            speed = Math.max(0L, speed - drag - braking);
        }

        long microsecondsOfTurn() {
            return speed < SLOWEST_TACHO ? 0L : 60_000_000_000L / speed;
        }

        long countInTick() {
            return speed / 10_000L;
        }
    }

    /** What tacho and commutator told at the latest tick, as speeds. */
    private static final class Sensors {
        static final int TRUE_ONE = -1;
        static final long MOST_SPEED = 100_000L;

        int tachoTells = TRUE_ONE;
        int commutatorTells = TRUE_ONE;
        int tachoSpeed;
        int commutatorSpeed;
        int used;
        int lesser;

        void sense(Model model) {
            long time = tachoTells == TRUE_ONE ? model.microsecondsOfTurn() : tachoTells;
            long count = commutatorTells == TRUE_ONE ? model.countInTick() : commutatorTells;
            tachoSpeed = time <= 0L ? 0 : (int) Math.min(MOST_SPEED, 60_000_000L / time);
            commutatorSpeed = (int) Math.min(MOST_SPEED, 10L * count);
            used = Math.max(tachoSpeed, commutatorSpeed);
            lesser = Math.min(tachoSpeed, commutatorSpeed);
        }
    }

    /** What is counted in ticks in a row, in every state: rest, shaking, sensors that differ. */
    private static final class Watch {
        static final int REST_TICKS = 25;
        static final int SHAKING_TICKS = 5;
        static final int DIFFERING_TICKS = 10;

        int shaking;
        int restRow;
        int shakingRow;
        int differingRow;

        void count(Sensors sensors) {
            int used = sensors.used;
            int difference = used - sensors.lesser;
            restRow = used == 0 ? restRow + 1 : 0;
            shakingRow = shaking > 200 + used / 20 ? shakingRow + 1 : 0;
            differingRow = difference > 100 + used / 10 ? differingRow + 1 : 0;
        }

        void forget() {
            restRow = 0;
            shakingRow = 0;
            differingRow = 0;
        }

        boolean atRest() {
            return restRow >= REST_TICKS;
        }

        boolean shakesTooLong() {
            return shakingRow >= SHAKING_TICKS;
        }

        boolean differsTooLong() {
            return differingRow >= DIFFERING_TICKS;
        }
    }

    /** The bolt's contacts, and how long the coil that opens the lid is still to be fed. */
    private static final class Lid {
        static final int COIL_TICKS = 10;

        boolean contactA = true;
        boolean contactB;
        int coilTicksLeft;

        boolean locked() {
            return contactA && !contactB;
        }

        void askToOpen() {
            coilTicksLeft = COIL_TICKS;
        }

        boolean feedCoil() {
            if (coilTicksLeft == 0) {
                return false;
            }
            coilTicksLeft--;
            return true;
        }
    }

    /** What belongs to one run, from its start until the next one starts. */
    private static final class Run {
        static final long TURNS_TO_READ = 300_000L;

        long dose;
        long turns;
        int rotorRead = NONE;
        boolean wrongPattern;
        int greatest;
        int at;
        int ticksInSegment;
        int goal;

        void begin() {
            dose = 0L;
            turns = 0L;
            rotorRead = NONE;
            wrongPattern = false;
            greatest = 0;
            at = 0;
            ticksInSegment = 0;
            goal = 0;
        }

        /** The rotor read stays the first one: every other reading ends in a fault. */
        void readPattern(Rotors rotors) {
            turns = 0L;
            int found = rotors.withPattern(rotors.patternIn());
            if (found == NONE || (rotorRead != NONE && found != rotorRead)) {
                wrongPattern = true;
            } else {
                rotorRead = found;
            }
        }

        void moveGoal(int target, int slope) {
            if (goal < target) {
                goal = Math.min(target, goal + slope);
            } else {
                goal = Math.max(target, goal - slope);
            }
        }

        void nextSegment() {
            at++;
            ticksInSegment = 0;
        }
    }

    /** The latest runs that ended; record k stands in row k modulo the rows' length. */
    private static final class Records {
        static final int PLACES = 16;

        final int[] reasons = new int[PLACES];
        final long[] doses = new long[PLACES];
        final int[] speeds = new int[PLACES];
        int total;

        void add(int reason, long dose, int greatest) {
            int row = Math.floorMod(total, PLACES);
            reasons[row] = reason;
            doses[row] = dose;
            speeds[row] = greatest;
            total++;
        }

        boolean keeps(int k) {
            return k >= 0 && k < total && k >= total - PLACES;
        }

        long entry(int k, int what) {
            int row = Math.floorMod(k, PLACES);
            switch (what) {
                case 0: return reasons[row];
                case 1: return doses[row];
                default: return speeds[row];
            }
        }
    }

    /** The control: its state, and the orders that it gives at each tick. */
    private static final class Control {
        static final int NO_REASON = 0;
        static final int NOT_LOCKED = 1;
        static final int WRONG_ROTOR = 2;
        static final int TOO_FAST = 3;
        static final int SHAKEN = 4;
        static final int SENSORS_DIFFER = 5;
        static final int PROGRAM_THROUGH = 10;
        static final int STOPPED = 11;
        static final int POWER_LOST = 12;

        static final int MOST_DRIVE = 100;
        static final int DRIVE_AT_GOAL = 40;
        static final int FULL_BRAKE = 9;
        static final int BRAKE_ABOVE_GOAL = 3;
        static final int ROOM_ABOVE_GOAL = 200;
        static final int ROOM_AT_RAMP_END = 100;
        static final long DOSE_UNIT = 1_000_000_000L;

        final Rotors rotors;
        final Program program;
        final Sensors sensors;
        final Lid lid;
        final Records records;
        final Watch watch = new Watch();
        final Run run = new Run();

        boolean powered = true;
        int chamberCenti = 2_000;
        int state = IDLE;
        int reason = NO_REASON;
        int drive;
        int brake;
        boolean coilFed;

        Control(Rotors rotors, Program program, Sensors sensors, Lid lid, Records records) {
            this.rotors = rotors;
            this.program = program;
            this.sensors = sensors;
            this.lid = lid;
            this.records = records;
        }

        boolean takesOrders(int wanted) {
            return powered && state == wanted;
        }

        void beginRun() {
            run.begin();
            reason = NO_REASON;
            state = RUNNING;
        }

        void beginStopping(int why) {
            state = STOPPING;
            reason = why;
        }

        /** The coil's remaining ticks stay: without power the control does nothing, so none is fed. */
        void powerGoes() {
            powered = false;
            watch.forget();
        }

        void powerComes() {
            powered = true;
            watch.forget();
            if (state != IDLE) {
                state = FAULT;
                reason = POWER_LOST;
            }
        }

        void order(Model model) {
            drive = 0;
            brake = 0;
            coilFed = false;
            if (!powered) {
                return;
            }
            readSensors(model);
            lookForFault();
            addDose();
            followProgram();
            comeToRest();
            coilFed = lid.feedCoil();
        }

        private boolean turning() {
            return state == RUNNING || state == STOPPING;
        }

        private void readSensors(Model model) {
            sensors.sense(model);
            watch.count(sensors);
            int used = sensors.used;
            run.turns += used;
            if (turning() && run.turns >= Run.TURNS_TO_READ) {
                run.readPattern(rotors);
            }
            if (state != IDLE) {
                run.greatest = Math.max(run.greatest, used);
            }
        }

        private void lookForFault() {
            if (!turning()) {
                return;
            }
            int found = faultReason();
            if (found != NO_REASON) {
                state = FAULT;
                reason = found;
            }
        }

        private int faultReason() {
            if (!lid.locked()) {
                return NOT_LOCKED;
            }
            if (run.wrongPattern) {
                return WRONG_ROTOR;
            }
            if (sensors.used > rotors.limitOf(run.rotorRead)) {
                return TOO_FAST;
            }
            if (watch.shakesTooLong()) {
                return SHAKEN;
            }
            return watch.differsTooLong() ? SENSORS_DIFFER : NO_REASON;
        }

        private void addDose() {
            if (state == RUNNING) {
                long lesser = sensors.lesser;
                run.dose += rotors.radiusOf(run.rotorRead) * lesser * lesser;
            }
        }

        private void followProgram() {
            if (state != RUNNING) {
                return;
            }
            if (program.has(run.at) && !segmentIsThrough(run.at)) {
                return;
            }
            run.nextSegment();
            if (!program.has(run.at)) {
                beginStopping(PROGRAM_THROUGH);
            }
        }

        private boolean segmentIsThrough(int at) {
            int a = program.firsts[at];
            int b = program.seconds[at];
            run.ticksInSegment++;
            switch (program.kinds[at]) {
                case Program.RAMP:
                    return ramp(a, b);
                case Program.BRAKE:
                    return slowDown(a, b);
                case Program.HOLD_TICKS:
                    keepToGoal();
                    return run.ticksInSegment >= a;
                case Program.HOLD_DOSE:
                    keepToGoal();
                    return run.dose >= a * DOSE_UNIT;
                default:
                    keepToGoal();
                    return chamberCenti <= a;
            }
        }

        private boolean ramp(int target, int slope) {
            int used = sensors.used;
            if (run.ticksInSegment == 1) {
                run.goal = used;
            }
            run.moveGoal(target, slope);
            keepToGoal();
            return run.goal == target && Math.abs(used - target) <= ROOM_AT_RAMP_END;
        }

        private boolean slowDown(int target, int strength) {
            brake = strength;
            if (sensors.used > target) {
                return false;
            }
            run.goal = target;
            return true;
        }

        private void keepToGoal() {
            int missing = run.goal - sensors.used;
            if (missing < -ROOM_ABOVE_GOAL) {
                brake = BRAKE_ABOVE_GOAL;
            } else if (run.goal != 0) {
                drive = Math.max(0, Math.min(MOST_DRIVE, DRIVE_AT_GOAL + missing / 4));
            }
        }

        /** The tick that finds rest is still braked: the orders come before the change of state. */
        private void comeToRest() {
            if (state != STOPPING && state != FAULT) {
                return;
            }
            drive = 0;
            brake = FULL_BRAKE;
            if (watch.atRest()) {
                records.add(reason, run.dose, run.greatest);
                state = IDLE;
            }
        }
    }
}
