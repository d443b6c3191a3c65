/**
 * Gates that should add or multiply, shown right or wrong by polynomials over bits.
 * What each call answers is told in ../shared/DOC.md, promises 1 to 24.
 */
public final class GateSums {
    public static final int NONE = -1, BAD = -2, NO = -3, FULL = -4;

    private static final int MOST_INPUTS = 6, MOST_GATES = 12, MOST_OUTPUTS = 7;
    private static final int MOST_SIGNALS = MOST_INPUTS + MOST_GATES;
    private static final int MOST_BYTES = 120, MOST_TERMS = 40;
    private static final int MOST_SEED = 999999, MOST_ADDER_BITS = 3;
    private static final int FAULT_BASE = -10, FINE = 0;
    private static final int GATE_KINDS = 8, TASK_KINDS = 4;
    private static final int NOT = 0, AND = 1, OR = 2, XOR = 3, NAND = 4, NOR = 5, XNOR = 6;
    private static final int SUM = 0, PRODUCT = 1, SQUARE = 2;

    private final Reader reader = new Reader();
    private final Circuit circuit = new Circuit();
    /** What is read stands here first, so that a FAULT leaves the circuit as it is. */
    private final Circuit draft = new Circuit();
    private final Columns columns = new Columns();
    private final Columns trial = new Columns();
    private final Stages stages = new Stages();
    private int bads;
    private int noes;
    private int fulls;

    public GateSums() {
    }

    // ---- circuits

    public int type(int c) {
        if (c < 0 || c > 127) {
            return refused(BAD);
        }
        return reader.text.append(c) ? reader.text.length : refused(FULL);
    }

    public int clear() {
        int had = reader.text.length;
        reader.text.length = 0;
        return had;
    }

    public int reads() {
        int fault = reader.faultOf(draft);
        if (fault != NONE) {
            return FAULT_BASE - fault;
        }
        circuit.become(draft);
        return changed();
    }

    public int kind(int g, int kind) {
        int why = refusal(isGate(g) && circuit.mayPut(g, kind));
        if (why != FINE) {
            return why;
        }
        int was = circuit.kindOf(g);
        put(circuit.kinds, g, kind);
        changed();
        return was;
    }

    public int wire(int g, int way, int signal) {
        int why = refusal(isGate(g) && isWay(g, way) && isAhead(g, signal));
        if (why != FINE) {
            return why;
        }
        int[] row = way == 0 ? circuit.xs : circuit.ys;
        int was = at(row, g);
        put(row, g, signal);
        changed();
        return was;
    }

    public int of(int g, int what) {
        int why = refusal(isGate(g) && what >= 0 && what <= 3);
        if (why != FINE) {
            return why;
        }
        switch (what) {
            case 0:
                return circuit.kindOf(g);
            case 1:
                return circuit.xOf(g);
            case 2:
                return circuit.yOf(g);
            default:
                return circuit.usesOf(circuit.inputs + g);
        }
    }

    public int told(int what, int i) {
        boolean asTold = what == 0 ? isPlace(i) : what >= 1 && what <= 3 && i == 0;
        int why = refusal(asTold);
        if (why != FINE) {
            return why;
        }
        switch (what) {
            case 0:
                return circuit.outputAt(i);
            case 1:
                return circuit.task;
            case 2:
                return circuit.p;
            default:
                return circuit.q;
        }
    }

    public int adder(int b) {
        if (b < 1 || b > MOST_ADDER_BITS) {
            return refused(BAD);
        }
        circuit.begin(2 * b);
        circuit.addOutput(circuit.addGate(XOR, 0, b));
        int carry = circuit.addGate(AND, 0, b);
        for (int i = 1; i < b; i++) {
            int one = circuit.addGate(XOR, i, b + i);
            circuit.addOutput(circuit.addGate(XOR, one, carry));
            int both = circuit.addGate(AND, i, b + i);
            int passed = circuit.addGate(AND, one, carry);
            carry = circuit.addGate(OR, both, passed);
        }
        circuit.addOutput(carry);
        circuit.end(SUM, b, b);
        return changed();
    }

    public int draw(int seed, int n, int g) {
        boolean isSize = n >= 1 && n <= MOST_INPUTS && g >= 1 && g <= MOST_GATES;
        if (seed < 0 || seed > MOST_SEED || !isSize) {
            return refused(BAD);
        }
        circuit.begin(n);
        long x = seed;
        for (int i = 0; i < g; i++) {
            x = (x * 1103515245L + 12345L) % 2147483648L;
            int kind = leftOver(x / 65536, GATE_KINDS);
            int second = kind == NOT ? NONE : leftOver(x / 32768, n + i);
            circuit.addGate(kind, leftOver(x / 1024, n + i), second);
        }
        circuit.addOutput(n + g - 1);
        if (g > 1) {
            circuit.addOutput(n + g - 2);
        }
        circuit.end(SUM, 1, 0);
        return changed();
    }

    // ---- what it does

    public int runs(int v, int what) {
        int why = refusal(isInputs(v) && (what == 0 || what == 1));
        if (why != FINE) {
            return why;
        }
        return what == 0 ? columns.outputsFor(circuit, v) : circuit.taskFor(v);
    }

    public int signal(int s, int v) {
        int why = refusal(isSignal(s) && isInputs(v));
        return why != FINE ? why : columns.bit(s, v);
    }

    public int wrong(int what) {
        int why = refusal(what == 0 || what == 1);
        if (why != FINE) {
            return why;
        }
        return what == 0 ? columns.firstWrong(circuit) : columns.countWrong(circuit);
    }

    public int cures(int g) {
        int why = refusal(isGate(g));
        if (why != FINE) {
            return why;
        }
        int found = 0;
        for (int kind = 0; kind < GATE_KINDS; kind++) {
            if (circuit.mayPut(g, kind)) {
                trial.fill(circuit, g, kind);
                found |= trial.firstWrong(circuit) == NONE ? 1 << kind : 0;
            }
        }
        return found;
    }

    // ---- stages

    public int right() {
        int why = stageRefusal(true, circuit.gates);
        if (why != FINE) {
            return why;
        }
        return stages.sizeOf(circuit.gates) == 0 ? 1 : 0;
    }

    public int terms(int k) {
        int why = stageRefusal(isStage(k), k);
        return why != FINE ? why : stages.sizeOf(k);
    }

    public int term(int k, int j, int what) {
        int why = stageRefusal(isStage(k) && j >= 0 && (what == 0 || what == 1), k);
        if (why != FINE) {
            return why;
        }
        if (j >= stages.sizeOf(k)) {
            return NONE;
        }
        return what == 0 ? stages.coefficientAt(k, j) : stages.setAt(k, j);
    }

    public int most(int what) {
        int rest = circuit.gates;
        int why = stageRefusal(what >= 0 && what <= 2, rest);
        if (why != FINE) {
            return why;
        }
        switch (what) {
            case 0:
                return stages.greatestSize(rest);
            case 1:
                return stages.widestOf(rest);
            default:
                return stages.sumWhere(rest, -1);
        }
    }

    public int dearest(int k, int j) {
        int why = stageRefusal(isStage(k) && j >= 0, k);
        return why != FINE ? why : stages.dearestOf(k, j);
    }

    public int value(int k, int v) {
        int why = stageRefusal(isStage(k) && isInputs(v), k);
        return why != FINE ? why : stages.sumWhere(k, columns.trueSignals(circuit, v));
    }

    public int stands(int k) {
        int why = stageRefusal(isStage(k), k);
        return why != FINE ? why : stages.unionOf(k);
    }

    public int witness() {
        int why = stageRefusal(true, circuit.gates);
        return why != FINE ? why : stages.narrowestOf(circuit.gates);
    }

    public int count(int what) {
        switch (what) {
            case 0:
                return bads;
            case 1:
                return noes;
            case 2:
                return fulls;
            case 3:
                return reader.text.length;
            case 4:
                return circuit.inputs;
            case 5:
                return circuit.gates;
            case 6:
                return circuit.outputs;
            default:
                return refused(BAD);
        }
    }

    public long digest() {
        long h = 1993;
        for (int what = 0; what <= 6; what++) {
            h = 31 * h + count(what);
        }
        for (int g = 0; g < circuit.gates; g++) {
            h = 31 * h + circuit.kindOf(g);
            h = 31 * h + circuit.xOf(g);
            h = 31 * h + circuit.yOf(g);
        }
        for (int i = 0; i < circuit.outputs; i++) {
            h = 31 * h + circuit.outputAt(i);
        }
        boolean there = circuit.there;
        h = 31 * h + (there ? circuit.task : NONE);
        h = 31 * h + (there ? circuit.p : NONE);
        h = 31 * h + (there ? circuit.q : NONE);
        return 31 * h + (there ? columns.countWrong(circuit) : NONE);
    }

    // ---- what is as told, and what is refused

    private boolean isGate(int g) {
        return g >= 0 && g < (circuit.there ? circuit.gates : MOST_GATES);
    }

    private boolean isSignal(int s) {
        return s >= 0 && s < (circuit.there ? circuit.signals() : MOST_SIGNALS);
    }

    private boolean isAhead(int g, int s) {
        return s >= 0 && s < (circuit.there ? circuit.inputs + g : MOST_SIGNALS);
    }

    private boolean isWay(int g, int way) {
        return way == 0 || way == 1 && !(circuit.there && circuit.kindOf(g) == NOT);
    }

    private boolean isPlace(int i) {
        return i >= 0 && i < (circuit.there ? circuit.outputs : MOST_OUTPUTS);
    }

    private boolean isStage(int k) {
        return k >= 0 && k <= (circuit.there ? circuit.gates : MOST_GATES);
    }

    private boolean isInputs(int v) {
        return v >= 0 && v < 1 << (circuit.there ? circuit.inputs : MOST_INPUTS);
    }

    private int refused(int why) {
        if (why == BAD) {
            bads++;
        } else if (why == NO) {
            noes++;
        } else {
            fulls++;
        }
        return why;
    }

    private int refusal(boolean asTold) {
        if (!asTold) {
            return refused(BAD);
        }
        return circuit.there ? FINE : refused(NO);
    }

    private int stageRefusal(boolean asTold, int k) {
        int why = refusal(asTold);
        if (why != FINE) {
            return why;
        }
        return stages.reach(circuit, k) ? FINE : refused(FULL);
    }

    /** All that was worked out of the former circuit is of no use any more. */
    private int changed() {
        columns.fill(circuit, NONE, NONE);
        stages.forget();
        return circuit.gates;
    }

    // ---- rows, looked at before they are used

    private static int at(int[] row, int i) {
        return i >= 0 && i < row.length ? row[i] : NONE;
    }

    private static void put(int[] row, int i, int value) {
        if (i >= 0 && i < row.length) {
            row[i] = value;
        }
    }

    private static int leftOver(long x, int by) {
        return by > 0 ? (int) (x % by) : 0;
    }

    /** The set of one SIGNAL; of NONE (a NOT's y) the empty one. */
    private static int setOf(int signal) {
        return signal >= 0 && signal < MOST_SIGNALS ? 1 << signal : 0;
    }

    /** INPUTS, GATES, OUTPUTS and the TASK. */
    private static final class Circuit {
        boolean there;
        int inputs;
        int gates;
        int outputs;
        int task;
        int p;
        int q;
        final int[] kinds = new int[MOST_GATES];
        final int[] xs = new int[MOST_GATES];
        final int[] ys = new int[MOST_GATES];
        final int[] places = new int[MOST_OUTPUTS];

        void begin(int n) {
            there = false;
            inputs = n;
            gates = 0;
            outputs = 0;
        }

        /** Answers the new GATE's SIGNAL, for those that come behind it. */
        int addGate(int kind, int x, int y) {
            if (gates >= MOST_GATES) {
                return NONE;
            }
            put(kinds, gates, kind);
            put(xs, gates, x);
            put(ys, gates, y);
            gates++;
            return signals() - 1;
        }

        void addOutput(int signal) {
            if (outputs < MOST_OUTPUTS) {
                put(places, outputs, signal);
                outputs++;
            }
        }

        void end(int taskKind, int first, int second) {
            task = taskKind;
            p = first;
            q = second;
            there = true;
        }

        void become(Circuit other) {
            begin(other.inputs);
            for (int g = 0; g < other.gates; g++) {
                addGate(other.kindOf(g), other.xOf(g), other.yOf(g));
            }
            for (int i = 0; i < other.outputs; i++) {
                addOutput(other.outputAt(i));
            }
            end(other.task, other.p, other.q);
        }

        int signals() {
            return inputs + gates;
        }

        int kindOf(int g) {
            return at(kinds, g);
        }

        int xOf(int g) {
            return at(xs, g);
        }

        int yOf(int g) {
            return at(ys, g);
        }

        int outputAt(int i) {
            return at(places, i);
        }

        /** A NOT stays one, for it has no y; without a circuit any KIND may come. */
        boolean mayPut(int g, int kind) {
            if (kind < 0 || kind >= GATE_KINDS) {
                return false;
            }
            return !there || (kind == NOT) == (kindOf(g) == NOT);
        }

        int usesOf(int signal) {
            int uses = 0;
            for (int g = 0; g < gates; g++) {
                uses += xOf(g) == signal || yOf(g) == signal ? 1 : 0;
            }
            for (int i = 0; i < outputs; i++) {
                uses += outputAt(i) == signal ? 1 : 0;
            }
            return uses;
        }

        int taskFor(int v) {
            int a = v & (1 << p) - 1;
            int b = v >> p & (1 << q) - 1;
            switch (task) {
                case SUM:
                    return a + b;
                case PRODUCT:
                    return a * b;
                case SQUARE:
                    return a * a + b;
                default:
                    return 3 * a - b;
            }
        }
    }

    /** Each SIGNAL for all INPUTS at once: bit v of its column is what it is for v. */
    private static final class Columns {
        private static final long[] INPUT_COLUMNS = {
            0xAAAAAAAAAAAAAAAAL, 0xCCCCCCCCCCCCCCCCL, 0xF0F0F0F0F0F0F0F0L,
            0xFF00FF00FF00FF00L, 0xFFFF0000FFFF0000L, 0xFFFFFFFF00000000L,
        };

        final long[] rows = new long[MOST_SIGNALS];

        /** GATE g is taken to be of another KIND than it is; NONE: all as they are. */
        void fill(Circuit circuit, int g, int kind) {
            for (int i = 0; i < circuit.inputs && i < INPUT_COLUMNS.length && i < rows.length; i++) {
                rows[i] = INPUT_COLUMNS[i];
            }
            for (int i = 0; i < circuit.gates; i++) {
                int signal = circuit.inputs + i;
                if (signal >= 0 && signal < rows.length) {
                    rows[signal] = column(circuit, i, i == g ? kind : circuit.kindOf(i));
                }
            }
        }

        private long column(Circuit circuit, int g, int kind) {
            long x = row(circuit.xOf(g));
            long y = row(circuit.yOf(g));
            switch (kind) {
                case NOT:
                    return ~x;
                case AND:
                    return x & y;
                case OR:
                    return x | y;
                case XOR:
                    return x ^ y;
                case NAND:
                    return ~(x & y);
                case NOR:
                    return ~(x | y);
                case XNOR:
                    return ~(x ^ y);
                default:
                    return x & ~y;
            }
        }

        private long row(int signal) {
            return signal >= 0 && signal < rows.length ? rows[signal] : 0;
        }

        int bit(int signal, int v) {
            return (int) (row(signal) >>> v & 1);
        }

        int outputsFor(Circuit circuit, int v) {
            int sum = 0;
            for (int i = 0; i < circuit.outputs; i++) {
                sum += bit(circuit.outputAt(i), v) << i;
            }
            return sum;
        }

        int trueSignals(Circuit circuit, int v) {
            int set = 0;
            for (int s = 0; s < circuit.signals(); s++) {
                set |= bit(s, v) << s;
            }
            return set;
        }

        private boolean isWrong(Circuit circuit, int v) {
            return outputsFor(circuit, v) != circuit.taskFor(v);
        }

        int firstWrong(Circuit circuit) {
            int all = 1 << circuit.inputs;
            for (int v = 0; v < all; v++) {
                if (isWrong(circuit, v)) {
                    return v;
                }
            }
            return NONE;
        }

        int countWrong(Circuit circuit) {
            int all = 1 << circuit.inputs;
            int wrongs = 0;
            for (int v = 0; v < all; v++) {
                wrongs += isWrong(circuit, v) ? 1 : 0;
            }
            return wrongs;
        }
    }

    /** A POLYNOMIAL that grows: its TERMS in ORDER, the greatest one first. */
    private static final class Polynomial {
        /** Each TERM of a STAGE becomes four at most, ahead of those that fall together. */
        private static final int ROOM = 4 * MOST_TERMS;
        /** ROOM, halved so often, is nothing. */
        private static final int HALVINGS = 8;

        final int[] sets = new int[ROOM];
        final int[] coefficients = new int[ROOM];
        int size;

        void add(int set, int coefficient) {
            if (coefficient == 0) {
                return;
            }
            int place = placeOf(set);
            if (place >= size || at(sets, place) != set) {
                insert(place, set, coefficient);
                return;
            }
            int sum = at(coefficients, place) + coefficient;
            if (sum == 0) {
                remove(place);
            } else {
                put(coefficients, place, sum);
            }
        }

        /** A set, as bits, is in ORDER as its number is: the greatest unlike bit decides. */
        private int placeOf(int set) {
            int low = 0;
            int high = size;
            for (int step = 0; step < HALVINGS && low < high; step++) {
                int middle = low + high >>> 1;
                if (at(sets, middle) > set) {
                    low = middle + 1;
                } else {
                    high = middle;
                }
            }
            return low;
        }

        private void insert(int place, int set, int coefficient) {
            if (place < 0 || place > size || size >= ROOM) {
                return;
            }
            System.arraycopy(sets, place, sets, place + 1, size - place);
            System.arraycopy(coefficients, place, coefficients, place + 1, size - place);
            put(sets, place, set);
            put(coefficients, place, coefficient);
            size++;
        }

        private void remove(int place) {
            if (place < 0 || place >= size || size > ROOM) {
                return;
            }
            int behind = size - place - 1;
            System.arraycopy(sets, place + 1, sets, place, behind);
            System.arraycopy(coefficients, place + 1, coefficients, place, behind);
            size--;
        }
    }

    /** The STAGES of a circuit, worked out only as far as they were asked for. */
    private static final class Stages {
        /** By KIND of GATE: the COEFFICIENTS of 1, x, y and xy. */
        private static final int[] OF_ONE = {1, 0, 0, 0, 1, 1, 1, 0};
        private static final int[] OF_X = {-1, 0, 1, 1, 0, -1, -1, 1};
        private static final int[] OF_Y = {0, 0, 1, 1, 0, -1, -1, 0};
        private static final int[] OF_BOTH = {0, 1, -1, -2, -1, 1, 2, -1};
        /** By KIND of TASK: how often A and B count, beside A times a number. */
        private static final int[] TASK_OF_A = {1, 0, 0, 3};
        private static final int[] TASK_OF_B = {1, 0, 1, -1};

        final int[] sizes = new int[MOST_GATES + 1];
        final int[] sets = new int[(MOST_GATES + 1) * MOST_TERMS];
        final int[] coefficients = new int[(MOST_GATES + 1) * MOST_TERMS];
        final Polynomial work = new Polynomial();
        int known;
        boolean burst;

        void forget() {
            known = 0;
            burst = false;
        }

        /** Whether STAGES 0 to k all have room; a STAGE behind one without it is never made. */
        boolean reach(Circuit circuit, int k) {
            for (int stage = known; stage <= k && stage < sizes.length && !burst; stage++) {
                work.size = 0;
                if (stage == 0) {
                    addOutputs(circuit);
                    takeTask(circuit);
                } else {
                    replaceGate(circuit, stage - 1, circuit.gates - stage);
                }
                keep(stage);
            }
            return k < known;
        }

        private void keep(int stage) {
            if (work.size > MOST_TERMS) {
                burst = true;
                return;
            }
            put(sizes, stage, work.size);
            for (int j = 0; j < work.size; j++) {
                put(sets, stage * MOST_TERMS + j, at(work.sets, j));
                put(coefficients, stage * MOST_TERMS + j, at(work.coefficients, j));
            }
            known = stage + 1;
        }

        private void addOutputs(Circuit circuit) {
            for (int i = 0; i < circuit.outputs; i++) {
                work.add(setOf(circuit.outputAt(i)), 1 << i);
            }
        }

        private void takeTask(Circuit circuit) {
            int p = circuit.p;
            int timesFrom = circuit.task == PRODUCT ? p : 0;
            int timesBits = circuit.task == PRODUCT ? circuit.q : circuit.task == SQUARE ? p : 0;
            for (int i = 0; i < p; i++) {
                work.add(setOf(i), -at(TASK_OF_A, circuit.task) * (1 << i));
                for (int j = 0; j < timesBits; j++) {
                    work.add(setOf(i) | setOf(timesFrom + j), -(1 << i + j));
                }
            }
            for (int i = 0; i < circuit.q; i++) {
                work.add(setOf(p + i), -at(TASK_OF_B, circuit.task) * (1 << i));
            }
        }

        private void replaceGate(Circuit circuit, int stage, int g) {
            int gate = setOf(circuit.inputs + g);
            int x = setOf(circuit.xOf(g));
            int y = setOf(circuit.yOf(g));
            int kind = circuit.kindOf(g);
            for (int j = 0; j < sizeOf(stage); j++) {
                int set = setAt(stage, j);
                int coefficient = coefficientAt(stage, j);
                if ((set & gate) == 0) {
                    work.add(set, coefficient);
                } else {
                    int others = set & ~gate;
                    work.add(others, coefficient * at(OF_ONE, kind));
                    work.add(others | x, coefficient * at(OF_X, kind));
                    work.add(others | y, coefficient * at(OF_Y, kind));
                    work.add(others | x | y, coefficient * at(OF_BOTH, kind));
                }
            }
        }

        int sizeOf(int k) {
            return k >= 0 && k < known ? at(sizes, k) : 0;
        }

        int setAt(int k, int j) {
            return at(sets, k * MOST_TERMS + j);
        }

        int coefficientAt(int k, int j) {
            return at(coefficients, k * MOST_TERMS + j);
        }

        int greatestSize(int last) {
            int greatest = 0;
            for (int k = 0; k <= last && k < sizes.length; k++) {
                greatest = Math.max(greatest, sizeOf(k));
            }
            return greatest;
        }

        int widestOf(int k) {
            int widest = 0;
            for (int j = 0; j < sizeOf(k); j++) {
                widest = Math.max(widest, Integer.bitCount(setAt(k, j)));
            }
            return widest;
        }

        /** The set of fewest SIGNALS; TERMS fall in ORDER, so the last of like ones is the least. */
        int narrowestOf(int k) {
            int narrowest = NONE;
            int fewest = MOST_SIGNALS;
            for (int j = 0; j < sizeOf(k); j++) {
                int signals = Integer.bitCount(setAt(k, j));
                if (signals <= fewest) {
                    fewest = signals;
                    narrowest = setAt(k, j);
                }
            }
            return narrowest;
        }

        int unionOf(int k) {
            int union = 0;
            for (int j = 0; j < sizeOf(k); j++) {
                union |= setAt(k, j);
            }
            return union;
        }

        int sumWhere(int k, int trueSignals) {
            int sum = 0;
            for (int j = 0; j < sizeOf(k); j++) {
                boolean counts = (setAt(k, j) & ~trueSignals) == 0;
                sum += counts ? coefficientAt(k, j) : 0;
            }
            return sum;
        }

        int dearestOf(int k, int rank) {
            for (int j = 0; j < sizeOf(k); j++) {
                if (dearerThan(k, j) == rank) {
                    return setAt(k, j);
                }
            }
            return NONE;
        }

        /** How many TERMS come ahead of the j-th one, if the dearest come first. */
        private int dearerThan(int k, int j) {
            int own = Math.abs(coefficientAt(k, j));
            int dearer = 0;
            for (int i = 0; i < sizeOf(k); i++) {
                int other = Math.abs(coefficientAt(k, i));
                dearer += other > own || other == own && i < j ? 1 : 0;
            }
            return dearer;
        }
    }

    /** THE TEXT. */
    private static final class Text {
        final byte[] bytes = new byte[MOST_BYTES];
        int length;

        boolean append(int c) {
            if (length < 0 || length >= bytes.length) {
                return false;
            }
            bytes[length] = (byte) c;
            length++;
            return true;
        }

        int byteAt(int i) {
            return i >= 0 && i < length && i < bytes.length ? bytes[i] : NONE;
        }
    }

    /** Holds THE TEXT and reads it word by word; where it stops, the FAULT is. */
    private static final class Reader {
        private static final int AT_END = 0, AT_WORD = 1, AT_NUMBER = 2, AT_SIGN = 3;
        private static final int MOST_FIGURES = 2;

        final Text text = new Text();
        private int from;
        private int to;
        private int sort;

        /** NONE: the draft is what the text tells. */
        int faultOf(Circuit draft) {
            to = 0;
            advance();
            boolean whole = readInputs(draft) && readGates(draft) && readOutputs(draft) && readTask(draft);
            return whole && sort == AT_END ? NONE : from;
        }

        private boolean readInputs(Circuit draft) {
            if (!takeWord("in")) {
                return false;
            }
            int n = takeNumber(1, MOST_INPUTS);
            if (n == NONE) {
                return false;
            }
            draft.begin(n);
            return takeSemicolon();
        }

        private boolean readGates(Circuit draft) {
            for (int g = 0; g < MOST_GATES && takeWord("g"); g++) {
                if (!readGate(draft)) {
                    return false;
                }
            }
            return true;
        }

        private boolean readGate(Circuit draft) {
            int kind = gateKind();
            if (kind == NONE) {
                return false;
            }
            advance();
            int last = draft.signals() - 1;
            int x = takeNumber(0, last);
            if (x == NONE) {
                return false;
            }
            int y = kind == NOT ? NONE : takeNumber(0, last);
            if (kind != NOT && y == NONE) {
                return false;
            }
            draft.addGate(kind, x, y);
            return takeSemicolon();
        }

        private boolean readOutputs(Circuit draft) {
            if (!takeWord("out")) {
                return false;
            }
            int last = draft.signals() - 1;
            for (int i = 0; i < MOST_OUTPUTS && (i == 0 || sort == AT_NUMBER); i++) {
                int signal = takeNumber(0, last);
                if (signal == NONE) {
                    return false;
                }
                draft.addOutput(signal);
            }
            return takeSemicolon();
        }

        private boolean readTask(Circuit draft) {
            if (!takeWord("task")) {
                return false;
            }
            int kind = taskKind();
            if (kind == NONE) {
                return false;
            }
            advance();
            int p = takeNumber(1, draft.inputs);
            if (p == NONE) {
                return false;
            }
            int q = takeNumber(0, draft.inputs - p);
            if (q == NONE) {
                return false;
            }
            draft.end(kind, p, q);
            return takeSemicolon();
        }

        private int gateKind() {
            for (int kind = 0; kind < GATE_KINDS; kind++) {
                if (isWord(gateWord(kind))) {
                    return kind;
                }
            }
            return NONE;
        }

        private int taskKind() {
            for (int kind = 0; kind < TASK_KINDS; kind++) {
                if (isWord(taskWord(kind))) {
                    return kind;
                }
            }
            return NONE;
        }

        private static String gateWord(int kind) {
            switch (kind) {
                case NOT:
                    return "not";
                case AND:
                    return "and";
                case OR:
                    return "or";
                case XOR:
                    return "xor";
                case NAND:
                    return "nand";
                case NOR:
                    return "nor";
                case XNOR:
                    return "xnor";
                default:
                    return "but";
            }
        }

        private static String taskWord(int kind) {
            switch (kind) {
                case SUM:
                    return "sum";
                case PRODUCT:
                    return "product";
                case SQUARE:
                    return "square";
                default:
                    return "triple";
            }
        }

        private boolean isWord(String word) {
            if (sort != AT_WORD || to - from != word.length()) {
                return false;
            }
            for (int i = 0; i < word.length(); i++) {
                if (text.byteAt(from + i) != word.charAt(i)) {
                    return false;
                }
            }
            return true;
        }

        /** Takes nothing, if it does not stand there: then what stands there is the FAULT. */
        private boolean takeWord(String word) {
            if (!isWord(word)) {
                return false;
            }
            advance();
            return true;
        }

        private int takeNumber(int least, int most) {
            if (sort != AT_NUMBER || to - from > MOST_FIGURES) {
                return NONE;
            }
            int number = 0;
            for (int i = from; i < to; i++) {
                number = 10 * number + text.byteAt(i) - '0';
            }
            if (number < least || number > most) {
                return NONE;
            }
            advance();
            return number;
        }

        private boolean takeSemicolon() {
            if (sort != AT_SIGN || text.byteAt(from) != ';') {
                return false;
            }
            advance();
            return true;
        }

        private void advance() {
            from = to;
            while (from < text.length && text.byteAt(from) == ' ') {
                from++;
            }
            sort = sortOf(text.byteAt(from));
            to = sort == AT_END ? from : from + 1;
            boolean isRow = sort == AT_WORD || sort == AT_NUMBER;
            while (isRow && to < text.length && sortOf(text.byteAt(to)) == sort) {
                to++;
            }
        }

        private static int sortOf(int c) {
            if (c == NONE) {
                return AT_END;
            }
            if (c >= '0' && c <= '9') {
                return AT_NUMBER;
            }
            boolean isLetter = c >= 'a' && c <= 'z' || c >= 'A' && c <= 'Z';
            return isLetter ? AT_WORD : AT_SIGN;
        }
    }
}
