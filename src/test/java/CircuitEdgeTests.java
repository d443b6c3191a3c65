import java.math.BigInteger;

/** "1 SIGNALS" up to the TASKS, and promises 1, 5 to 14, 23 and 24: each sentence that names an edge. */
public final class CircuitEdgeTests {
    private static final int NONE = -1, BAD = -2, NO = -3;
    private static final int NOT = 0, AND = 1, OR = 2, XOR = 3, NAND = 4, NOR = 5, XNOR = 6, BUT = 7;
    private static final String[] TASKS = {"sum", "product", "square", "triple"};

    private final Due due = new Due();

    public static void main(String[] args) {
        new CircuitEdgeTests().all();
    }

    private void all() {
        newObject();
        objectsStandAlone();
        gatesAreTheirKinds();
        outputsCountTwiceEach();
        tasksTellNumbers();
        tasksAtTheirEnds();
        rightForAllInputs();
        kindAnswersWhatItWas();
        kindKeepsNotAlone();
        wireTakesSignalsAhead();
        wireKeepsNotWithoutY();
        ofTellsAGate();
        ofCountsUses();
        usesOfTheFormerOne();
        toldTellsOutputsAndTask();
        adderIsAsTold();
        adderReplaces();
        drawIsAsTold();
        drawOfOneGate();
        drawAtItsEnds();
        runsForEachInputs();
        signalsForEachInputs();
        wrongLeastAndCount();
        curesAreKinds();
        curesOfNot();
        curesLeaveAll();
        countsAreAsTold();
        digestWraps();
        digestWithoutCircuit();
        refusedIsCountedInDigest();
        due.end();
    }

    // ---- promise 1

    private void newObject() {
        due.sentence("GateSums(): As told; no circuit");
        GateSums sums = new GateSums();
        for (int what = 0; what <= 6; what++) {
            due.is("count(" + what + ")", sums.count(what), 0);
        }
        due.is("clear", sums.clear(), 0);
        due.is("reads", sums.reads(), -10);
        due.is("of", sums.of(0, 0), NO);
        due.is("right", sums.right(), NO);
        due.is("count(1)", sums.count(1), 2);
    }

    private void objectsStandAlone() {
        due.sentence("GateSums(): a new object has nothing of another one");
        GateSums first = Due.adding(2);
        first.type('x');
        first.adder(0);
        GateSums second = new GateSums();
        due.are("the new one", Picture.of(second), 0, 0, 0, 0);
        due.are("its refusals", Picture.refusals(second), 0, 0, 0);
        second.adder(1);
        due.is("GATES of the first one", first.count(5), 7);
        due.is("GATES of the new one", second.count(5), 2);
    }

    // ---- what circuits and TASKS are

    private void gatesAreTheirKinds() {
        due.sentence("0 NOT (of x), 1 AND, 2 OR, 3 XOR, 4 NAND, 5 NOR, 6 XNOR, 7 BUT (x and not y)");
        // For x y = 0 0, 1 0, 0 1, 1 1: INPUT 0 is x.
        int[][] truth = {
            {1, 0, 1, 0}, {0, 0, 0, 1}, {0, 1, 1, 1}, {0, 1, 1, 0},
            {1, 1, 1, 0}, {1, 0, 0, 0}, {1, 0, 0, 1}, {0, 1, 0, 0},
        };
        GateSums sums = Due.circuit("in 2;g and 0 1;g and 0 0;g and 1 0;g not 0;out 2;task sum 1 1;");
        for (int kind = AND; kind <= BUT; kind++) {
            for (int g = 0; g < 3; g++) {
                sums.kind(g, kind);
            }
            for (int v = 0; v < 4; v++) {
                int x = v & 1;
                int y = v >> 1;
                due.is("KIND " + kind + " of x y, v " + v, sums.signal(2, v), truth[kind][v]);
                due.is("KIND " + kind + " of x x, v " + v, sums.signal(3, v), truth[kind][3 * x]);
                due.is("KIND " + kind + " of y x, v " + v, sums.signal(4, v), truth[kind][y + 2 * x]);
                due.is("NOT of x, v " + v, sums.signal(5, v), truth[NOT][v]);
            }
        }
    }

    private void outputsCountTwiceEach() {
        due.sentence("OUTPUTS stand for the first one, twice the second one, four times the third, and so on");
        for (int place = 0; place < 7; place++) {
            StringBuilder row = new StringBuilder();
            for (int i = 0; i < 7; i++) {
                row.append(i == place ? " 1" : " 0");
            }
            GateSums sums = Due.circuit("in 2;out" + row + ";task sum 1 1;");
            due.is("no SIGNAL", sums.runs(0, 0), 0);
            due.is("place " + place + " alone", sums.runs(2, 0), 1 << place);
            due.is("all but place " + place, sums.runs(1, 0), 127 - (1 << place));
            due.is("all", sums.runs(3, 0), 127);
        }
        due.is("one OUTPUT alone", Due.circuit("in 2;out 1;task sum 1 1;").runs(3, 0), 1);
    }

    private void tasksTellNumbers() {
        due.sentence("SUM: A and B. PRODUCT: A times B. SQUARE: A times A, and B. TRIPLE: three times A, less B");
        for (int n = 1; n <= 6; n++) {
            for (int p = 1; p <= n; p++) {
                for (int q = 0; p + q <= n; q++) {
                    for (int task = 0; task < TASKS.length; task++) {
                        tells(n, p, q, task);
                    }
                }
            }
        }
    }

    private void tells(int n, int p, int q, int task) {
        String text = "in " + n + ";out 0;task " + TASKS[task] + " " + p + " " + q + ";";
        GateSums sums = Due.circuit(text);
        for (int v = 0; v < 1 << n; v++) {
            int a = v % (1 << p);
            int b = (v >> p) % (1 << q);
            int[] want = {a + b, a * b, a * a + b, 3 * a - b};
            due.is(text + " for " + v, sums.runs(v, 1), want[task]);
        }
    }

    private void tasksAtTheirEnds() {
        due.sentence("TASKS: p 1 .. n, q 0 .. n: the least and the greatest that they tell");
        due.is("SUM 6 0", Due.circuit("in 6;out 0;task sum 6 0;").runs(63, 1), 63);
        due.is("SUM 1 5", Due.circuit("in 6;out 0;task sum 1 5;").runs(63, 1), 32);
        due.is("PRODUCT 3 3", Due.circuit("in 6;out 0;task product 3 3;").runs(63, 1), 49);
        due.is("PRODUCT without B", Due.circuit("in 6;out 0;task product 6 0;").runs(63, 1), 0);
        due.is("SQUARE 6 0", Due.circuit("in 6;out 0;task square 6 0;").runs(63, 1), 3969);
        due.is("TRIPLE 6 0", Due.circuit("in 6;out 0;task triple 6 0;").runs(63, 1), 189);
        due.is("TRIPLE 1 5, below 0", Due.circuit("in 6;out 0;task triple 1 5;").runs(62, 1), -31);
        GateSums below = Due.circuit("in 6;out 0;task triple 1 5;");
        for (int b = 1; b <= 4; b++) {
            due.is("as a refusal is, but none", below.runs(2 * b, 1), -b);
        }
        due.are("none is counted", Picture.refusals(below), 0, 0, 0);
    }

    private void rightForAllInputs() {
        due.sentence("RIGHT, if for all INPUTS what the OUTPUTS stand for is what the TASK tells");
        GateSums last = Due.circuit("in 2;g and 0 1;out 2;task product 2 0;");
        due.is("wrong for the greatest v alone", last.wrong(0), 3);
        due.is("wrong for one v", last.wrong(1), 1);
        due.is("not RIGHT", last.right(), 0);
        GateSums first = Due.circuit("in 2;g nor 0 1;out 2;task product 2 0;");
        due.is("wrong for v 0 alone", first.wrong(0), 0);
        due.is("wrong for one v, too", first.wrong(1), 1);
        due.is("not RIGHT, too", first.right(), 0);
        GateSums beside = Due.circuit("in 2;g and 0 1;out 2;task sum 1 0;");
        due.is("INPUTS beside A and B count, too", beside.wrong(1), 1);
        due.is("RIGHT, whatever the INPUTS beside A and B", Due.circuit("in 6;out 0;task sum 1 0;").wrong(1), 0);
    }

    // ---- promises 5 to 8

    private void kindAnswersWhatItWas() {
        due.sentence("kind: GATE g (from 0 on) gets a KIND (others 1 .. 7): what it was");
        for (int from = AND; from <= BUT; from++) {
            for (int to = AND; to <= BUT; to++) {
                GateSums sums = Due.circuit("in 2;g and 0 1;g and 1 0;g and 0 0;out 4;task sum 1 1;");
                sums.kind(2, from);
                due.is("from " + from + " to " + to, sums.kind(2, to), from);
                due.is("it is " + to, sums.of(2, 0), to);
                due.is("x stays", sums.of(2, 1), 0);
                due.is("y stays", sums.of(2, 2), 0);
                due.is("GATE 0 stays", sums.of(0, 0), AND);
                due.is("GATE 1 stays", sums.of(1, 0), AND);
            }
        }
        GateSums adder = Due.adding(1);
        due.is("STAGES ahead of it", adder.right(), 1);
        due.is("the first GATE", adder.kind(0, XNOR), XOR);
        due.is("the last GATE", adder.kind(1, OR), AND);
        due.is("one behind the last", adder.kind(2, OR), BAD);
        due.is("one ahead of the first", adder.kind(-1, OR), BAD);
        due.is("STAGES behind it", adder.right(), 0);
        due.is("what it does", adder.runs(0, 0), 1);
        due.is("the TASK stays", adder.runs(0, 1), 0);
    }

    private void kindKeepsNotAlone() {
        due.sentence("kind: one with x alone NOT, others 1 .. 7; else BAD");
        GateSums sums = Due.circuit("in 2;g not 0;g but 0 1;out 3;task sum 1 1;");
        long[] before = Picture.of(sums);
        due.is("NOT gets NOT", sums.kind(0, NOT), NOT);
        due.is("BUT gets BUT", sums.kind(1, BUT), BUT);
        for (int kind = AND; kind <= BUT; kind++) {
            due.is("NOT gets " + kind, sums.kind(0, kind), BAD);
        }
        due.is("BUT gets NOT", sums.kind(1, NOT), BAD);
        for (int g = 0; g < 2; g++) {
            due.is("GATE " + g + " gets 8", sums.kind(g, 8), BAD);
            due.is("GATE " + g + " gets -1", sums.kind(g, -1), BAD);
        }
        due.are("counted", Picture.refusals(sums), 12, 0, 0);
        due.are("all stays", Picture.of(sums), before);
    }

    private void wireTakesSignalsAhead() {
        due.sentence("wire: GATE g gets x (way 0), y (1) as a SIGNAL ahead of it: what it was");
        for (int g = 0; g < 7; g++) {
            for (int way = 0; way <= 1; way++) {
                GateSums sums = Due.adding(2);
                int was = sums.of(g, 1 + way);
                int other = sums.of(g, 2 - way);
                due.is("to the least, GATE " + g, sums.wire(g, way, 0), was);
                due.is("it is the least", sums.of(g, 1 + way), 0);
                due.is("to the greatest", sums.wire(g, way, 4 + g - 1), 0);
                due.is("it is the greatest", sums.of(g, 1 + way), 4 + g - 1);
                due.is("to itself", sums.wire(g, way, 4 + g), BAD);
                due.is("to one behind it", sums.wire(g, way, 10), BAD);
                due.is("below 0", sums.wire(g, way, -1), BAD);
                due.is("it stays", sums.of(g, 1 + way), 4 + g - 1);
                due.is("the other way stays", sums.of(g, 2 - way), other);
                due.are("counted", Picture.refusals(sums), 3, 0, 0);
            }
        }
        GateSums like = Due.circuit("in 2;g xor 0 1;out 2;task product 2 0;");
        due.is("wrong for two", like.wrong(1), 2);
        due.is("x and y may be alike", like.wire(0, 1, 0), 1);
        due.is("XOR of like ones is 0 always", like.right(), 1);
    }

    private void wireKeepsNotWithoutY() {
        due.sentence("wire: y (1; of NOT BAD)");
        GateSums sums = Due.circuit("in 2;g not 0;out 2;task sum 1 1;");
        due.is("x of NOT", sums.wire(0, 0, 1), 0);
        long[] before = Picture.of(sums);
        due.is("y of NOT", sums.wire(0, 1, 0), BAD);
        due.is("way 2", sums.wire(0, 2, 0), BAD);
        due.is("way -1", sums.wire(0, -1, 0), BAD);
        due.are("counted", Picture.refusals(sums), 3, 0, 0);
        due.are("all stays", Picture.of(sums), before);
        due.is("y is NONE, still", sums.of(0, 2), NONE);
    }

    private void ofTellsAGate() {
        due.sentence("of: KIND (0), x (1), y (2; NOT: NONE)");
        GateSums sums = Due.circuit("in 6;g nor 5 0;g not 6;out 7;task sum 1 1;");
        due.are("NOR", new long[] {sums.of(0, 0), sums.of(0, 1), sums.of(0, 2)}, NOR, 5, 0);
        due.are("NOT", new long[] {sums.of(1, 0), sums.of(1, 1), sums.of(1, 2)}, NOT, 6, NONE);
        due.are("NONE is not counted", Picture.refusals(sums), 0, 0, 0);
        due.is("GATE 2", sums.of(2, 0), BAD);
        due.is("what 4", sums.of(0, 4), BAD);
    }

    private void ofCountsUses() {
        due.sentence("of: in how many GATES (each once) and places of OUTPUTS it stands (3)");
        due.is("nowhere", Due.circuit("in 1;g not 0;out 0;task sum 1 0;").of(0, 3), 0);
        due.is("as x", Due.circuit("in 1;g not 0;g but 1 0;out 0;task sum 1 0;").of(0, 3), 1);
        due.is("as y", Due.circuit("in 1;g not 0;g but 0 1;out 0;task sum 1 0;").of(0, 3), 1);
        due.is("of a NOT", Due.circuit("in 1;g not 0;g not 1;out 0;task sum 1 0;").of(0, 3), 1);
        due.is("as x and y: once", Due.circuit("in 1;g not 0;g but 1 1;out 0;task sum 1 0;").of(0, 3), 1);
        due.is("in an OUTPUT", Due.circuit("in 1;g not 0;out 1;task sum 1 0;").of(0, 3), 1);
        due.is("in each place of OUTPUTS", Due.circuit("in 1;g not 0;out 1 1 1 0 1 1 1;task sum 1 0;").of(0, 3), 6);
        GateSums most = Due.circuit("in1;g not0;" + "g not1;".repeat(11) + "out1 1 1 1 1 1 1;task sum1 0;");
        due.is("in all GATES behind it and all places", most.of(0, 3), 18);
        due.is("the last GATE nowhere", most.of(11, 3), 0);
        most.wire(5, 0, 0);
        due.is("in one fewer, wired to another", most.of(0, 3), 17);
        GateSums row = Due.circuit("in 2;g and 0 1;g or 2 2;g xor 3 2;g not 4;g nor 4 3;out 6 4 6;task sum 1 1;");
        int[] uses = {2, 2, 3, 0, 2};
        for (int g = 0; g < uses.length; g++) {
            due.is("GATE " + g, row.of(g, 3), uses[g]);
        }
    }

    private void usesOfTheFormerOne() {
        due.sentence("of: in how many GATES and places it stands (3), not in those of a former circuit");
        GateSums sums = Due.circuit("in 1;g not 0;g not 1;out 0 1;task sum 1 0;");
        due.is("in a GATE and a place", sums.of(0, 3), 2);
        Due.type(sums, "in 1;g not 0;out 0;task sum 1 0;");
        due.is("reads", sums.reads(), 1);
        due.is("nowhere", sums.of(0, 3), 0);
    }

    private void toldTellsOutputsAndTask() {
        due.sentence("told: OUTPUT i (what 0), of the TASK KIND (1), p (2), q (3; of 1 to 3 i is 0)");
        GateSums sums = Due.circuit("in 6;g not 0;out 6 5 4 3 2 1 0;task triple 2 4;");
        for (int i = 0; i < 7; i++) {
            due.is("OUTPUT " + i, sums.told(0, i), 6 - i);
        }
        due.are("the TASK", new long[] {sums.told(1, 0), sums.told(2, 0), sums.told(3, 0)}, 3, 2, 4);
        int refused = 0;
        for (int what = 1; what <= 3; what++) {
            for (int i : new int[] {-1, 1, 6}) {
                refused++;
                due.is("told(" + what + ", " + i + ")", sums.told(what, i), BAD);
            }
        }
        due.is("told(0, 7)", sums.told(0, 7), BAD);
        due.is("told(4, 0)", sums.told(4, 0), BAD);
        due.are("counted", Picture.refusals(sums), refused + 2, 0, 0);
        due.is("OUTPUT 1 of one", Due.circuit("in 1;out 0;task sum 1 0;").told(0, 1), BAD);
    }

    // ---- promises 9, 10

    private void adderIsAsTold() {
        due.sentence("adder: a circuit that adds two numbers of b bits (1 .. 3), SIGNALS as told");
        int[][][] gates = {
            {{XOR, 0, 1}, {AND, 0, 1}},
            {{XOR, 0, 2}, {AND, 0, 2}, {XOR, 1, 3}, {XOR, 6, 5}, {AND, 1, 3}, {AND, 6, 5}, {OR, 8, 9}},
            {{XOR, 0, 3}, {AND, 0, 3}, {XOR, 1, 4}, {XOR, 8, 7}, {AND, 1, 4}, {AND, 8, 7}, {OR, 10, 11},
                {XOR, 2, 5}, {XOR, 13, 12}, {AND, 2, 5}, {AND, 13, 12}, {OR, 15, 16}},
        };
        int[][] outputs = {{2, 3}, {4, 7, 10}, {6, 9, 14, 17}};
        for (int b = 1; b <= 3; b++) {
            GateSums sums = new GateSums();
            due.is("adder(" + b + ")", sums.adder(b), gates[b - 1].length);
            due.is("INPUTS", sums.count(4), 2 * b);
            due.is("GATES", sums.count(5), gates[b - 1].length);
            due.is("OUTPUTS", sums.count(6), b + 1);
            for (int g = 0; g < gates[b - 1].length; g++) {
                due.are("GATE " + g, new long[] {sums.of(g, 0), sums.of(g, 1), sums.of(g, 2)},
                    gates[b - 1][g][0], gates[b - 1][g][1], gates[b - 1][g][2]);
            }
            for (int i = 0; i <= b; i++) {
                due.is("OUTPUT " + i, sums.told(0, i), outputs[b - 1][i]);
            }
            due.are("TASK SUM b b", new long[] {sums.told(1, 0), sums.told(2, 0), sums.told(3, 0)}, 0, b, b);
            for (int v = 0; v < 1 << 2 * b; v++) {
                due.is("it adds", sums.runs(v, 0), v % (1 << b) + (v >> b));
            }
        }
    }

    private void adderReplaces() {
        due.sentence("adder: The circuit becomes one that adds; BAD");
        GateSums sums = Due.circuit("in 1;g not 0;out 1 1 1 1 1 1 1;task triple 1 0;");
        due.is("not right", sums.right(), 0);
        due.is("adder(0)", sums.adder(0), BAD);
        due.is("adder(4)", sums.adder(4), BAD);
        due.is("the former one stays", sums.count(6), 7);
        due.is("adder(2)", sums.adder(2), 7);
        due.is("OUTPUTS of the former one are gone", sums.told(0, 3), BAD);
        due.is("right", sums.right(), 1);
        due.is("adder(1), a smaller one", sums.adder(1), 2);
        due.is("GATES of the former one are gone", sums.of(2, 0), BAD);
        due.is("OUTPUTS of the former one are gone, too", sums.told(0, 2), BAD);
        due.is("right, too", sums.right(), 1);
        due.are("counted", Picture.refusals(sums), 5, 0, 0);
    }

    private void drawIsAsTold() {
        due.sentence("draw: for each GATE one X: KIND, x, y by how many SIGNALS there are ahead (NOT: none)");
        for (int seed : new int[] {0, 1, 65535, 952, 1418, 999998, 999999}) {
            for (int n = 1; n <= 6; n++) {
                for (int g : new int[] {1, 2, 11, 12}) {
                    drawnIs(seed, n, g);
                }
            }
        }
    }

    private void drawnIs(int seed, int n, int g) {
        String label = "draw(" + seed + ", " + n + ", " + g + ")";
        GateSums sums = new GateSums();
        due.is(label, sums.draw(seed, n, g), g);
        BigInteger x = BigInteger.valueOf(seed);
        for (int i = 0; i < g; i++) {
            x = x.multiply(BigInteger.valueOf(1103515245)).add(BigInteger.valueOf(12345));
            x = x.remainder(BigInteger.valueOf(2147483648L));
            long now = x.longValueExact();
            long kind = now / 65536 % 8;
            due.are(label + " GATE " + i, new long[] {sums.of(i, 0), sums.of(i, 1), sums.of(i, 2)},
                kind, now / 1024 % (n + i), kind == NOT ? NONE : now / 32768 % (n + i));
        }
        due.is(label + " INPUTS", sums.count(4), n);
        due.is(label + " OUTPUTS", sums.count(6), Math.min(2, g));
        due.is(label + " the last GATE", sums.told(0, 0), n + g - 1);
        due.is(label + " the one ahead of it", sums.told(0, 1), g == 1 ? BAD : n + g - 2);
        due.are(label + " TASK SUM 1 0", new long[] {sums.told(1, 0), sums.told(2, 0), sums.told(3, 0)}, 0, 1, 0);
    }

    private void drawOfOneGate() {
        due.sentence("draw: OUTPUTS the last GATE and the one ahead of it, if there is one");
        due.is("of one GATE", Due.drawn(5, 6, 1).count(6), 1);
        due.is("of two GATES", Due.drawn(5, 6, 2).count(6), 2);
        due.is("of twelve GATES", Due.drawn(5, 6, 12).count(6), 2);
        GateSums sums = Due.drawn(5, 6, 12);
        sums.draw(5, 1, 1);
        due.is("nothing of the former one is left", sums.told(0, 1), BAD);
    }

    private void drawAtItsEnds() {
        due.sentence("draw: SEED (0 .. 999999), g (1 .. 12), n (1 .. 6); BAD");
        int[][] taken = {{0, 1, 1}, {999999, 6, 12}, {0, 6, 1}, {999999, 1, 12}};
        for (int[] a : taken) {
            due.is("taken", new GateSums().draw(a[0], a[1], a[2]), a[2]);
        }
        int[][] refused = {{-1, 1, 1}, {1000000, 1, 1}, {0, 0, 1}, {0, 7, 1}, {0, 1, 0}, {0, 1, 13}, {-1, 7, 13}};
        for (int[] a : refused) {
            GateSums sums = Due.adding(2);
            long[] before = Picture.of(sums);
            due.is("refused", sums.draw(a[0], a[1], a[2]), BAD);
            due.are("counted once", Picture.refusals(sums), 1, 0, 0);
            due.are("all stays", Picture.of(sums), before);
        }
    }

    // ---- promises 11 to 14

    private void runsForEachInputs() {
        due.sentence("runs: for INPUTS v (0 .. 2 to the n less 1: INPUT i is bit i)");
        for (int n = 1; n <= 6; n++) {
            StringBuilder row = new StringBuilder();
            for (int i = 0; i < n; i++) {
                row.append(" ").append(i);
            }
            GateSums sums = Due.circuit("in " + n + ";out" + row + ";task sum " + n + " 0;");
            for (int v = 0; v < 1 << n; v++) {
                due.is("OUTPUTS for " + v, sums.runs(v, 0), v);
                due.is("TASK for " + v, sums.runs(v, 1), v);
            }
            due.is("2 to the " + n, sums.runs(1 << n, 0), BAD);
            due.is("-1", sums.runs(-1, 0), BAD);
            due.are("counted", Picture.refusals(sums), 2, 0, 0);
        }
    }

    private void signalsForEachInputs() {
        due.sentence("signal: SIGNAL s for INPUTS v: 1, 0");
        for (int n = 1; n <= 6; n++) {
            GateSums sums = Due.circuit("in " + n + ";g not " + (n - 1) + ";out 0;task sum 1 0;");
            int last = (1 << n) - 1;
            for (int s = 0; s < n; s++) {
                due.is("INPUT " + s + " for 0", sums.signal(s, 0), 0);
                due.is("INPUT " + s + " for its bit", sums.signal(s, 1 << s), 1);
                due.is("INPUT " + s + " for all others", sums.signal(s, last - (1 << s)), 0);
                due.is("INPUT " + s + " for all", sums.signal(s, last), 1);
            }
            due.is("the last GATE for 0", sums.signal(n, 0), 1);
            due.is("the last GATE for all", sums.signal(n, last), 0);
            due.is("one SIGNAL more", sums.signal(n + 1, 0), BAD);
            due.is("one v more", sums.signal(0, last + 1), BAD);
            due.is("SIGNAL -1", sums.signal(-1, 0), BAD);
            due.is("v -1", sums.signal(0, -1), BAD);
            due.are("counted", Picture.refusals(sums), 4, 0, 0);
        }
    }

    private void wrongLeastAndCount() {
        due.sentence("wrong: The least v for which it is wrong; NONE: it is RIGHT (what 0); for how many v (1)");
        GateSums right = Due.adding(3);
        due.is("RIGHT, the least", right.wrong(0), NONE);
        due.is("RIGHT, how many", right.wrong(1), 0);
        due.are("NONE is not counted", Picture.refusals(right), 0, 0, 0);
        GateSums all = Due.circuit("in 6;g not 0;out 6;task sum 1 0;");
        due.is("wrong for all, the least", all.wrong(0), 0);
        due.is("wrong for all, how many", all.wrong(1), 64);
        GateSums last = Due.circuit("in6;g and0 1;g and6 2;g and7 3;g and8 4;g and9 5;out10;task product1 0;");
        due.is("wrong for the last, the least", last.wrong(0), 63);
        due.is("wrong for the last, how many", last.wrong(1), 1);
        GateSums first = Due.circuit("in6;g or0 1;g or6 2;g or7 3;g or8 4;g nor9 5;out10;task product1 0;");
        due.is("wrong for the first, the least", first.wrong(0), 0);
        due.is("wrong for the first, how many", first.wrong(1), 1);
        due.is("wrong(2)", first.wrong(2), BAD);
        due.is("wrong(-1)", first.wrong(-1), BAD);
    }

    private void curesAreKinds() {
        due.sentence("cures: By which KINDS of GATE g (bits; itself, too, such as it may be put to) it would be RIGHT");
        GateSums free = Due.circuit("in 1;g but 0 0;out 0;task sum 1 0;");
        due.is("all but NOT", free.cures(0), 254);
        for (int kind = AND; kind <= BUT; kind++) {
            free.kind(0, kind);
            due.is("all but NOT, of KIND " + kind, free.cures(0), 254);
        }
        due.is("none", Due.circuit("in 1;g and 0 0;out 0;task triple 1 0;").cures(0), 0);
        GateSums sums = Due.adding(2);
        int[] want = {1 << XOR, 1 << AND, 1 << XOR, 1 << XOR, 1 << AND, 1 << AND, 1 << OR | 1 << XOR};
        for (int g = 0; g < want.length; g++) {
            due.is("of the adder's GATE " + g, sums.cures(g), want[g]);
        }
        sums.kind(4, NOR);
        for (int g = 0; g < want.length; g++) {
            due.is("of the wrong adder's GATE " + g, sums.cures(g), g == 4 ? 1 << AND : 0);
        }
        due.is("cures(7)", sums.cures(7), BAD);
        due.is("cures(-1)", sums.cures(-1), BAD);
        due.is("none is 0 always", Due.circuit("in 2;g xor 0 1;g and 0 2;out 3 2;task product 2 0;").cures(0), 0);
        due.is("a constant", Due.circuit("in 1;g xnor 0 0;out 1;task product 1 0;").cures(0), 1 << XOR | 1 << BUT);
        GateSums like = Due.circuit("in 1;g or 0 0;g not 1;out 2;task sum 1 0;");
        due.is("NAND, NOR of x and x", like.cures(0), 1 << NAND | 1 << NOR);
    }

    private void curesOfNot() {
        due.sentence("cures: such as it may be put to: one with x alone NOT");
        GateSums right = Due.circuit("in 1;g not 0;g not 1;out 2;task sum 1 0;");
        due.is("NOT alone", right.cures(0), 1);
        due.is("NOT alone, the last one", right.cures(1), 1);
        due.is("none", Due.circuit("in 1;g not 0;out 1;task sum 1 0;").cures(0), 0);
        due.is("NOT, free", Due.circuit("in 1;g not 0;out 0;task sum 1 0;").cures(0), 1);
    }

    private void curesLeaveAll() {
        due.sentence("cures: what would be, not what is");
        GateSums sums = Due.adding(2);
        sums.kind(6, AND);
        long[] before = Picture.of(sums);
        long digest = sums.digest();
        for (int g = 0; g < 7; g++) {
            sums.cures(g);
        }
        due.are("all stays", Picture.of(sums), before);
        due.is("digest", sums.digest(), digest);
        for (int v = 0; v < 16; v++) {
            int carry = (v & 3) + (v >> 2) >= 4 ? 1 : 0;
            due.is("the last GATE for " + v, sums.signal(10, v), 0);
            due.is("the others for " + v, sums.signal(8, v) | sums.signal(9, v), carry);
        }
    }

    // ---- promises 23, 24

    private void countsAreAsTold() {
        due.sentence("count: refused BAD, NO, FULL; bytes, INPUTS, GATES, OUTPUTS (no circuit: 0 each). BAD");
        GateSums sums = new GateSums();
        Due.type(sums, "in 3;g not 0;out 3 3");
        sums.reads();
        due.are("no circuit", counts(sums), 0, 0, 0, 20, 0, 0, 0);
        due.is("count(7)", sums.count(7), BAD);
        due.is("count(-1)", sums.count(-1), BAD);
        due.are("each one counted itself", counts(sums), 2, 0, 0, 20, 0, 0, 0);
        sums.witness();
        due.are("a NO", counts(sums), 2, 1, 0, 20, 0, 0, 0);
        Due.type(sums, ";task sum 1 1;");
        sums.reads();
        due.are("a circuit", counts(sums), 2, 1, 0, 34, 3, 1, 2);
        sums.draw(1418, 5, 12);
        sums.right();
        due.are("a FULL", counts(sums), 2, 1, 1, 34, 5, 12, 2);
        sums.clear();
        due.are("no text", counts(sums), 2, 1, 1, 0, 5, 12, 2);
        Due.type(sums, " ".repeat(121));
        due.are("a FULL of THE TEXT", counts(sums), 2, 1, 2, 120, 5, 12, 2);
        due.is("NONE does not count", sums.dearest(0, 99), NONE);
        due.are("still", counts(sums), 2, 1, 2, 120, 5, 12, 2);
    }

    private static long[] counts(GateSums sums) {
        long[] row = new long[7];
        for (int what = 0; what < row.length; what++) {
            row[what] = sums.count(what);
        }
        return row;
    }

    private void digestWraps() {
        due.sentence("digest: h = 1993; then h = 31 h + v for each v");
        due.is("of an adder", Due.adding(1).digest(), digest(0, 0, 0, 0, 2, 2, 2, 3, 0, 1, 1, 0, 1, 2, 3, 0, 1, 1, 0));
        GateSums none = Due.circuit("in 1;out 0;task sum 1 0;");
        due.is("without GATES", none.digest(), digest(0, 0, 0, 0, 1, 0, 1, 0, 0, 1, 0, 0));
        GateSums not = Due.circuit("in 2;g not 1;out 2 0 2;task triple 2 0;");
        // OUTPUTS: 5 or 0 and 2 or 0, so 5, 7, 0, 2 for v 0 .. 3; the TASK tells 0, 3, 6, 9.
        due.is("with a NOT", not.digest(), digest(0, 0, 0, 0, 2, 1, 3, 0, 1, -1, 2, 0, 2, 3, 2, 0, 4));
        GateSums wide = Due.circuit("in1;" + "g not0;".repeat(12) + "out9 8 7 6 5 4 3;task sum1 0;");
        long[] row = new long[7 + 3 * 12 + 7 + 3 + 1];
        long[] head = {0, 0, 0, 0, 1, 12, 7};
        System.arraycopy(head, 0, row, 0, 7);
        for (int g = 0; g < 12; g++) {
            row[7 + 3 * g + 2] = NONE;
        }
        for (int i = 0; i < 7; i++) {
            row[43 + i] = 9 - i;
        }
        row[51] = 1;
        row[53] = 2;
        due.is("of the most there is", wide.digest(), digest(row));
    }

    private void digestWithoutCircuit() {
        due.sentence("digest: no circuit: -1 in place of these three and wrong(1)");
        due.is("of a new object", new GateSums().digest(), digest(0, 0, 0, 0, 0, 0, 0, -1, -1, -1, -1));
    }

    private void refusedIsCountedInDigest() {
        due.sentence("digest: count(0) to count(6)");
        GateSums sums = Due.adding(1);
        sums.type(' ');
        sums.adder(0);
        sums.adder(0);
        long want = digest(2, 0, 0, 1, 2, 2, 2, 3, 0, 1, 1, 0, 1, 2, 3, 0, 1, 1, 0);
        due.is("two BAD, one byte", sums.digest(), want);
        due.is("it counts nothing itself", sums.digest(), want);
        sums.kind(1, OR);
        due.is("wrong for two", sums.digest(), digest(2, 0, 0, 1, 2, 2, 2, 3, 0, 1, 2, 0, 1, 2, 3, 0, 1, 1, 2));
        GateSums none = new GateSums();
        none.right();
        Due.type(none, " ".repeat(122));
        due.is("one NO, two FULL, no circuit", none.digest(), digest(0, 1, 2, 120, 0, 0, 0, -1, -1, -1, -1));
    }

    /** By numbers without an end, cut to 64 bits once. */
    private static long digest(long... row) {
        BigInteger h = BigInteger.valueOf(1993);
        for (long v : row) {
            h = h.multiply(BigInteger.valueOf(31)).add(BigInteger.valueOf(v));
        }
        return h.longValue();
    }
}
