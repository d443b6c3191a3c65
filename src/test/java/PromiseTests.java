/** Each promise of the document by hand: ordinary inputs, the edges that it names, wrong inputs. */
public final class PromiseTests {
    private static final int NONE = -1, BAD = -2, NO = -3, FULL = -4;
    private static final String XOR_OF_SIX =
        "in6;g xor0 1;g xor6 2;g xor7 3;g xor8 4;g xor9 5;out10;task sum1 0;";
    private static final String FORTY_TERMS =
        "in6;g xor1 2;g xor6 3;g xor7 4;g xor8 5;g or0 1;g and10 2;g and10 3;g and10 4;out9 11 12 13;task square6 0;";
    private static final String FORTY_ONE_TERMS =
        "in6;g xor1 2;g xor6 3;g xor7 4;g xor8 5;g or0 1;g and10 2;g and10 3;g and10 4;g and10 5;"
            + "out9 11 12 13 14;task square6 0;";
    /** Two like XORS of five compared: the REST is small again, STAGES ahead of it are not. */
    private static final String FULL_BETWEEN =
        "in5;g xor0 1;g xor5 2;g xor6 3;g xor7 4;g xor0 1;g xor9 2;g xor10 3;g xor11 4;g xor8 12;out13;task sum1 0;";

    private final Due due = new Due();

    public static void main(String[] args) {
        new PromiseTests().all();
    }

    private void all() {
        promise1NewObject();
        promise2Type();
        promise3Clear();
        promise4Reads();
        promise4Faults();
        promise5Kind();
        promise6Wire();
        promise7Of();
        promise8Told();
        promise9Adder();
        promise10Draw();
        promise11Runs();
        promise12Signal();
        promise13Wrong();
        promise14Cures();
        promise15Right();
        promise16Terms();
        promise17Term();
        promise18Most();
        promise19Dearest();
        promise20Value();
        promise21Stands();
        promise22Witness();
        promise23Count();
        promise24Digest();
        refusalsChangeNothing();
        refusalsWithoutCircuit();
        due.end();
    }

    private void promise1NewObject() {
        GateSums sums = new GateSums();
        for (int what = 0; what <= 6; what++) {
            due.is("count(" + what + ") of a new object", sums.count(what), 0);
        }
        due.is("right of a new object", sums.right(), NO);
        due.is("clear of a new object", sums.clear(), 0);
        due.is("reads of an empty text", sums.reads(), -10);
    }

    private void promise2Type() {
        GateSums sums = new GateSums();
        due.is("type(0)", sums.type(0), 1);
        due.is("type(127)", sums.type(127), 2);
        due.is("type(128)", sums.type(128), BAD);
        due.is("type(-1)", sums.type(-1), BAD);
        for (int i = 3; i <= 120; i++) {
            due.is("type, byte " + i, sums.type(' '), i);
        }
        due.is("type, byte 121", sums.type(' '), FULL);
        due.is("type of no byte when full", sums.type(128), BAD);
        due.is("bytes when full", sums.count(3), 120);
        due.is("BAD counted", sums.count(0), 3);
        due.is("FULL counted", sums.count(2), 1);
    }

    private void promise3Clear() {
        GateSums sums = new GateSums();
        Due.type(sums, "in 1;");
        due.is("clear", sums.clear(), 5);
        due.is("clear again", sums.clear(), 0);
        due.is("bytes behind clear", sums.count(3), 0);
        due.is("type behind clear", sums.type('i'), 1);
        GateSums kept = new GateSums();
        kept.adder(1);
        Due.type(kept, "xyz");
        due.is("clear beside a circuit", kept.clear(), 3);
        due.is("GATES behind clear", kept.count(5), 2);
    }

    private void promise4Reads() {
        String all = "in 3;g not 0;g and 0 1;g or 1 2;g xor 3 4;g nand 0 6;g nor 1 1;g xnor 7 8;g but 2 9;";
        GateSums sums = new GateSums();
        Due.type(sums, all + "out 10 3 3;task triple 1 2;");
        due.is("reads", sums.reads(), 8);
        int[][] gates = {{0, 0, NONE}, {1, 0, 1}, {2, 1, 2}, {3, 3, 4}, {4, 0, 6}, {5, 1, 1}, {6, 7, 8}, {7, 2, 9}};
        for (int g = 0; g < gates.length; g++) {
            for (int what = 0; what < 3; what++) {
                due.is("of(" + g + ", " + what + ")", sums.of(g, what), gates[g][what]);
            }
        }
        due.is("OUTPUTS", sums.count(6), 3);
        due.is("the text stays", sums.count(3), all.length() + 27);
        due.is("read again", sums.reads(), 8);
        answers("in 1;out 0;task sum 1 0;", 0);
        answers("in1;out0;task sum1 0;", 0);
        answers("  in  01 ; out 00 0 ;  task  product 01 00 ;  ", 0);
        answers("in 6;out 0 1 2 3 4 5 5;task square 3 3;", 0);
        answers("in6;" + "g not0;".repeat(12) + "out17;task sum1 0;", 12);
    }

    private void promise4Faults() {
        fault("", 0);
        fault("   ", 3);
        fault("in", 2);
        fault("in 1", 4);
        fault("in 1;", 5);
        fault("in 1; ", 6);
        fault("in 1;out", 8);
        fault("in 1;out 0", 10);
        fault("in 1;out 0;", 11);
        fault("in 1;out 0;task", 15);
        fault("in 1;out 0;task sum 1", 21);
        fault("in 1;out 0;task sum 1 0", 23);
        fault("in 1;out 0;task sum 1 0  ", 25);
        fault("i", 0);
        fault("inn 1;", 0);
        fault(" in1in", 4);
        fault("In 1;", 0);
        fault("inX 1;", 0);
        fault("inA 1;", 0);
        fault("inZ 1;", 0);
        fault("inz 1;", 0);
        fault("in@1;", 2);
        fault("in[1;", 2);
        fault("in`1;", 2);
        fault("in{1;", 2);
        fault("in:1;", 2);
        fault("in/1;", 2);
        fault("in 1,out 0;", 4);
        fault("in 1:out 0;", 4);
        fault("in 0;", 3);
        fault("in 7;", 3);
        fault("in 001;", 3);
        fault("in;", 2);
        fault("in 1 1;", 5);
        fault("in 1;;", 5);
        fault("in\t1;", 2);
        fault("in 1;in 1;", 5);
        fault("in 1;task sum 1 0;", 5);
        fault("g not 0;", 0);
        fault("in 1;gnot 0;", 5);
        fault("in 1;g nots 0;", 7);
        fault("in 1;g sum 0;", 7);
        fault("in 1;g not 1;", 11);
        fault("in 1;g not 0 0;", 13);
        fault("in 1;g and 0;", 12);
        fault("in 1;g and 0 1;", 13);
        fault("in 1;g and 0 0 0;", 15);
        fault("in 2;g and 100 0;", 11);
        fault("in 1;g not 0;g not 2;", 19);
        fault("in6;" + "g not0;".repeat(13) + "out0;task sum1 0;", 4 + 12 * 7);
        fault("in 1;out;", 8);
        fault("in 1;out 1;", 9);
        fault("in 1;out 0 0 0 0 0 0 0 0;", 23);
        fault("in 1;out 0;out 0;", 11);
        fault("in 1;out 0;g not 0;", 11);
        fault("in 1;out 0;task and 1 0;", 16);
        fault("in 1;out 0;task sum 0 0;", 20);
        fault("in 1;out 0;task sum 2 0;", 20);
        fault("in 1;out 0;task sum 1 1;", 22);
        fault("in 1;out 0;task sum 1;", 21);
        fault("in 1;out 0;task sum 1 0 0;", 24);
        fault("in 1;out 0;task sum 1 0;;", 24);
        fault("in 1;out 0;task sum 1 0; in", 25);
        fault("in 1;out 0;task sum 1 0;\n", 24);
    }

    private void answers(String text, int want) {
        GateSums sums = new GateSums();
        Due.type(sums, text);
        due.is("reads of \"" + text + "\"", sums.reads(), want);
    }

    private void fault(String text, int place) {
        answers(text, -10 - place);
        GateSums sums = new GateSums();
        sums.adder(2);
        Due.type(sums, text);
        long before = sums.digest();
        sums.reads();
        due.is("digest behind the fault of \"" + text + "\"", sums.digest(), before);
    }

    private void promise5Kind() {
        GateSums sums = Due.circuit("in 2;g and 0 1;g not 2;out 3;task sum 1 0;");
        for (int kind = 1; kind <= 7; kind++) {
            due.is("kind(0, " + kind + ")", sums.kind(0, kind), Math.max(1, kind - 1));
            due.is("of(0, 0)", sums.of(0, 0), kind);
        }
        due.is("NOT to NOT", sums.kind(1, 0), 0);
        due.is("NOT to AND", sums.kind(1, 1), BAD);
        due.is("BUT to NOT", sums.kind(0, 0), BAD);
        due.is("kind(0, 8)", sums.kind(0, 8), BAD);
        due.is("kind(0, -1)", sums.kind(0, -1), BAD);
        due.is("kind(2, 1)", sums.kind(2, 1), BAD);
        due.is("kind(-1, 1)", sums.kind(-1, 1), BAD);
        due.is("still BUT", sums.of(0, 0), 7);
        due.is("still NOT", sums.of(1, 0), 0);
    }

    private void promise6Wire() {
        GateSums sums = Due.circuit("in 2;g and 0 1;g xor 2 1;g not 3;out 4;task sum 1 0;");
        due.is("wire(1, 0, 0)", sums.wire(1, 0, 0), 2);
        due.is("wire(1, 1, 2)", sums.wire(1, 1, 2), 1);
        due.is("of(1, 1)", sums.of(1, 1), 0);
        due.is("of(1, 2)", sums.of(1, 2), 2);
        due.is("wire(2, 0, 2)", sums.wire(2, 0, 2), 3);
        due.is("y of NOT", sums.wire(2, 1, 0), BAD);
        due.is("itself", sums.wire(1, 0, 3), BAD);
        due.is("below 0", sums.wire(1, 0, -1), BAD);
        due.is("way 2", sums.wire(1, 2, 0), BAD);
        due.is("way -1", sums.wire(1, -1, 0), BAD);
        due.is("wire(3, 0, 0)", sums.wire(3, 0, 0), BAD);
        due.is("wire(-1, 0, 0)", sums.wire(-1, 0, 0), BAD);
        due.is("signal(4, 1) as wired", sums.signal(4, 1), 1);
    }

    private void promise7Of() {
        GateSums sums = Due.circuit("in 1;g not 0;g and 1 1;g or 1 0;g xor 2 3;out 1 4 1;task sum 1 0;");
        int[] uses = {4, 1, 1, 1};
        for (int g = 0; g < uses.length; g++) {
            due.is("of(" + g + ", 3)", sums.of(g, 3), uses[g]);
        }
        due.is("y of NOT", sums.of(0, 2), NONE);
        due.is("of(0, 4)", sums.of(0, 4), BAD);
        due.is("of(0, -1)", sums.of(0, -1), BAD);
        due.is("of(4, 0)", sums.of(4, 0), BAD);
        due.is("of(-1, 0)", sums.of(-1, 0), BAD);
    }

    private void promise8Told() {
        GateSums sums = Due.circuit("in 6;out 5 0 3;task triple 4 2;");
        int[] outputs = {5, 0, 3};
        for (int i = 0; i < outputs.length; i++) {
            due.is("told(0, " + i + ")", sums.told(0, i), outputs[i]);
        }
        due.is("TASK KIND", sums.told(1, 0), 3);
        due.is("p", sums.told(2, 0), 4);
        due.is("q", sums.told(3, 0), 2);
        due.is("told(0, 3)", sums.told(0, 3), BAD);
        due.is("told(0, -1)", sums.told(0, -1), BAD);
        due.is("told(1, 1)", sums.told(1, 1), BAD);
        due.is("told(2, 1)", sums.told(2, 1), BAD);
        due.is("told(3, -1)", sums.told(3, -1), BAD);
        due.is("told(4, 0)", sums.told(4, 0), BAD);
        due.is("told(-1, 0)", sums.told(-1, 0), BAD);
        String[] kinds = {"sum", "product", "square", "triple"};
        for (int kind = 0; kind < kinds.length; kind++) {
            due.is(kinds[kind], Due.circuit("in 1;out 0;task " + kinds[kind] + " 1 0;").told(1, 0), kind);
        }
    }

    private void promise9Adder() {
        GateSums sums = new GateSums();
        int[] sizes = {2, 7, 12};
        for (int b = 1; b <= 3; b++) {
            due.is("adder(" + b + ")", sums.adder(b), sizes[b - 1]);
            due.is("it is right", sums.right(), 1);
            due.is("p", sums.told(2, 0), b);
            due.is("q", sums.told(3, 0), b);
            due.is("INPUTS", sums.count(4), 2 * b);
            due.is("OUTPUTS", sums.count(6), b + 1);
        }
        int[][] gates = {
            {3, 0, 3}, {1, 0, 3},
            {3, 1, 4}, {3, 8, 7}, {1, 1, 4}, {1, 8, 7}, {2, 10, 11},
            {3, 2, 5}, {3, 13, 12}, {1, 2, 5}, {1, 13, 12}, {2, 15, 16},
        };
        for (int g = 0; g < gates.length; g++) {
            for (int what = 0; what < 3; what++) {
                due.is("of(" + g + ", " + what + ")", sums.of(g, what), gates[g][what]);
            }
        }
        int[] outputs = {6, 9, 14, 17};
        for (int i = 0; i < outputs.length; i++) {
            due.is("told(0, " + i + ")", sums.told(0, i), outputs[i]);
        }
        due.is("adder(0)", sums.adder(0), BAD);
        due.is("adder(4)", sums.adder(4), BAD);
        due.is("the former one stays", sums.count(5), 12);
    }

    private void promise10Draw() {
        GateSums sums = new GateSums();
        due.is("draw(0, 2, 3)", sums.draw(0, 2, 3), 3);
        // X is 12345, then 1406932606, then 654583775;
        // by 65536, 1024, 32768 that is 0 12 0, then 21468 1373957 42936, then 9988 639241 19976.
        int[][] gates = {{0, 0, NONE}, {4, 2, 0}, {4, 1, 0}};
        for (int g = 0; g < gates.length; g++) {
            for (int what = 0; what < 3; what++) {
                due.is("drawn of(" + g + ", " + what + ")", sums.of(g, what), gates[g][what]);
            }
        }
        due.is("OUTPUT 0", sums.told(0, 0), 4);
        due.is("OUTPUT 1", sums.told(0, 1), 3);
        due.is("OUTPUTS", sums.count(6), 2);
        due.is("TASK", sums.told(1, 0), 0);
        due.is("p", sums.told(2, 0), 1);
        due.is("q", sums.told(3, 0), 0);
        for (int n = 1; n <= 6; n++) {
            drawIs(123456 * n, n, 12);
            drawIs(n - 1, n, 2);
        }
        due.is("of one GATE", sums.draw(999999, 6, 1), 1);
        due.is("its OUTPUTS", sums.count(6), 1);
        due.is("its OUTPUT", sums.told(0, 0), 6);
        long before = sums.digest();
        due.is("draw(-1, 1, 1)", sums.draw(-1, 1, 1), BAD);
        due.is("draw(1000000, 1, 1)", sums.draw(1000000, 1, 1), BAD);
        due.is("draw(0, 0, 1)", sums.draw(0, 0, 1), BAD);
        due.is("draw(0, 7, 1)", sums.draw(0, 7, 1), BAD);
        due.is("draw(0, 1, 0)", sums.draw(0, 1, 0), BAD);
        due.is("draw(0, 1, 13)", sums.draw(0, 1, 13), BAD);
        due.is("the former one stays, but for six refusals", sums.digest() != before ? sums.told(0, 0) : 0, 6);
    }

    private void drawIs(int seed, int n, int g) {
        GateSums sums = new GateSums();
        due.is("draw(" + seed + ", " + n + ", " + g + ")", sums.draw(seed, n, g), g);
        long x = seed;
        for (int i = 0; i < g; i++) {
            x = (x * 1103515245L + 12345) % 2147483648L;
            long kind = x / 65536 % 8;
            due.is("drawn KIND " + i, sums.of(i, 0), kind);
            due.is("drawn x " + i, sums.of(i, 1), x / 1024 % (n + i));
            due.is("drawn y " + i, sums.of(i, 2), kind == 0 ? NONE : x / 32768 % (n + i));
        }
        due.is("its INPUTS", sums.count(4), n);
        due.is("its OUTPUTS", sums.count(6), 2);
        due.is("its last OUTPUT", sums.told(0, 1), n + g - 2);
    }

    private void promise11Runs() {
        GateSums sums = Due.circuit("in 3;out 0 2 1 0;task square 2 1;");
        for (int v = 0; v < 8; v++) {
            int a = v & 3;
            int b = v >> 2;
            due.is("OUTPUTS for " + v, sums.runs(v, 0), 9 * (v & 1) + 2 * b + 4 * (a >> 1));
            due.is("SQUARE for " + v, sums.runs(v, 1), a * a + b);
        }
        GateSums six = Due.circuit("in 6;out 0;task sum 3 2;");
        GateSums product = Due.circuit("in 6;out 0;task product 3 2;");
        GateSums triple = Due.circuit("in 6;out 0;task triple 1 4;");
        GateSums noB = Due.circuit("in 6;out 0;task product 6 0;");
        for (int v = 0; v < 64; v++) {
            due.is("SUM for " + v, six.runs(v, 1), (v & 7) + (v >> 3 & 3));
            due.is("PRODUCT for " + v, product.runs(v, 1), (v & 7) * (v >> 3 & 3));
            due.is("TRIPLE for " + v, triple.runs(v, 1), 3 * (v & 1) - (v >> 1 & 15));
            due.is("PRODUCT without B for " + v, noB.runs(v, 1), 0);
        }
        due.is("seven OUTPUTS", Due.circuit("in 1;out 0 0 0 0 0 0 0;task sum 1 0;").runs(1, 0), 127);
        due.is("greatest SQUARE", Due.circuit("in 6;out 0;task square 6 0;").runs(63, 1), 3969);
        due.is("runs(8, 0)", sums.runs(8, 0), BAD);
        due.is("runs(-1, 0)", sums.runs(-1, 0), BAD);
        due.is("runs(0, 2)", sums.runs(0, 2), BAD);
        due.is("runs(0, -1)", sums.runs(0, -1), BAD);
    }

    private void promise12Signal() {
        GateSums sums = Due.circuit("in 2;g not 1;g and 0 1;g or 0 1;g xor 0 1;g nand 0 1;g nor 0 1;"
            + "g xnor 0 1;g but 0 1;out 9;task sum 1 0;");
        // For v 0, 1, 2, 3.
        int[][] due4 = {
            {0, 1, 0, 1}, {0, 0, 1, 1}, {1, 1, 0, 0}, {0, 0, 0, 1}, {0, 1, 1, 1},
            {0, 1, 1, 0}, {1, 1, 1, 0}, {1, 0, 0, 0}, {1, 0, 0, 1}, {0, 1, 0, 0},
        };
        for (int s = 0; s < due4.length; s++) {
            for (int v = 0; v < 4; v++) {
                due.is("signal(" + s + ", " + v + ")", sums.signal(s, v), due4[s][v]);
            }
        }
        due.is("signal(10, 0)", sums.signal(10, 0), BAD);
        due.is("signal(-1, 0)", sums.signal(-1, 0), BAD);
        due.is("signal(0, 4)", sums.signal(0, 4), BAD);
        due.is("signal(0, -1)", sums.signal(0, -1), BAD);
        GateSums six = Due.circuit("in 6;out 0;task sum 1 0;");
        for (int v = 0; v < 64; v++) {
            due.is("signal(5, " + v + ")", six.signal(5, v), v >> 5);
        }
    }

    private void promise13Wrong() {
        GateSums sums = new GateSums();
        sums.adder(1);
        due.is("right one, the least", sums.wrong(0), NONE);
        due.is("right one, how many", sums.wrong(1), 0);
        sums.kind(1, 2);
        due.is("OR for AND, the least", sums.wrong(0), 1);
        due.is("OR for AND, how many", sums.wrong(1), 2);
        sums.kind(1, 4);
        due.is("NAND for AND, the least", sums.wrong(0), 0);
        due.is("NAND for AND, how many", sums.wrong(1), 4);
        GateSums six = Due.circuit("in 6;out 0 1 2 3 4;task sum 6 0;");
        due.is("one bit missing, the least", six.wrong(0), 32);
        due.is("one bit missing, how many", six.wrong(1), 32);
        due.is("wrong(2)", sums.wrong(2), BAD);
        due.is("wrong(-1)", sums.wrong(-1), BAD);
    }

    private void promise14Cures() {
        GateSums sums = new GateSums();
        sums.adder(1);
        due.is("cures(0)", sums.cures(0), 1 << 3);
        due.is("cures(1)", sums.cures(1), 1 << 1);
        sums.kind(0, 2);
        due.is("OR to be XOR", sums.cures(0), 1 << 3);
        due.is("another one is no cure", sums.cures(1), 0);
        due.is("it stays as it is", sums.of(0, 0), 2);
        due.is("its SIGNAL stays as it is", sums.signal(2, 3), 1);
        GateSums like = Due.circuit("in 1;g and 0 0;out 1;task sum 1 0;");
        due.is("AND, OR of x and x", like.cures(0), 1 << 1 | 1 << 2);
        GateSums not = Due.circuit("in 1;g not 0;g not 1;out 2;task sum 1 0;");
        due.is("NOT may be NOT alone", not.cures(0), 1);
        due.is("NOT is no cure of a wrong one", Due.circuit("in 1;g not 0;out 1;task sum 1 0;").cures(0), 0);
        GateSums unused = Due.circuit("in 1;g or 0 0;out 0;task sum 1 0;");
        due.is("any, if nothing hangs on it", unused.cures(0), 254);
        due.is("cures(1)", unused.cures(1), BAD);
        due.is("cures(-1)", unused.cures(-1), BAD);
    }

    private void promise15Right() {
        GateSums sums = new GateSums();
        sums.adder(3);
        due.is("adder(3)", sums.right(), 1);
        sums.kind(11, 3);
        due.is("XOR of the ANDS does, too", sums.right(), 1);
        sums.kind(11, 1);
        due.is("AND of the ANDS does not", sums.right(), 0);
        due.is("no GATES, right", Due.circuit("in 1;out 0;task sum 1 0;").right(), 1);
        due.is("no GATES, wrong", Due.circuit("in 2;out 0;task sum 2 0;").right(), 0);
        due.is("FULL", Due.circuit(XOR_OF_SIX).right(), FULL);
        due.is("FULL at the last STAGE by one TERM", Due.circuit(FORTY_ONE_TERMS).right(), FULL);
        due.is("40 TERMS", Due.circuit(FORTY_TERMS).right(), 0);
        due.is("FULL between", Due.circuit(FULL_BETWEEN).right(), FULL);
    }

    private void promise16Terms() {
        GateSums sums = Due.circuit(XOR_OF_SIX);
        int[] sizes = {2, 4, 8, 16, 32, FULL};
        for (int k = 0; k < sizes.length; k++) {
            due.is("terms(" + k + ")", sums.terms(k), sizes[k]);
        }
        due.is("ahead of the FULL one, behind it", sums.terms(4), 32);
        due.is("terms(6)", sums.terms(6), BAD);
        due.is("terms(-1)", sums.terms(-1), BAD);
        sums.wire(4, 1, 4);
        // XOR of x and y and y is x: four INPUTS are left, 15 TERMS, less that of the TASK.
        due.is("a wire changes the STAGES", sums.terms(5), 14);
        GateSums between = Due.circuit(FULL_BETWEEN);
        due.is("ahead of the FULL one", between.terms(4), 32);
        due.is("the FULL one", between.terms(5), FULL);
        due.is("behind it", between.terms(9), FULL);
        due.is("40 TERMS", Due.circuit(FORTY_TERMS).terms(8), 40);
        GateSums more = Due.circuit(FORTY_ONE_TERMS);
        due.is("41 TERMS", more.terms(9), FULL);
        due.is("fewer ahead of them", more.terms(8) > 0 ? 1 : 0, 1);
        due.is("FULL counted", more.count(2), 1);
    }

    private void promise17Term() {
        // XOR: 1 x1, 1 x0, -2 x0x1, less x0 (1), less twice x1.
        GateSums sums = Due.circuit("in 2;g xor 0 1;out 2;task sum 2 0;");
        int[][] first = {{1, 4}, {-2, 2}, {-1, 1}};
        int[][] rest = {{-2, 3}, {-1, 2}};
        termsAre(sums, 0, first);
        termsAre(sums, 1, rest);
        int[][][] kinds = {
            {{-1, 1}, {1, 0}}, {{1, 3}}, {{-1, 3}, {1, 2}, {1, 1}}, {{-2, 3}, {1, 2}, {1, 1}},
            {{-1, 3}, {1, 0}}, {{1, 3}, {-1, 2}, {-1, 1}, {1, 0}}, {{2, 3}, {-1, 2}, {-1, 1}, {1, 0}},
            {{-1, 3}, {1, 1}},
        };
        String[] words = {"not 0", "and 0 1", "or 0 1", "xor 0 1", "nand 0 1", "nor 0 1", "xnor 0 1", "but 0 1"};
        for (int kind = 0; kind < words.length; kind++) {
            termsAre(Due.circuit("in 2;g " + words[kind] + ";out 2;task product 1 0;"), 1, kinds[kind]);
        }
        termsAre(Due.circuit("in 1;g xor 0 0;out 1;task product 1 0;"), 1, new int[0][]);
        termsAre(Due.circuit("in 1;out 0 0;task product 1 0;"), 0, new int[][] {{3, 1}});
        termsAre(Due.circuit("in 3;out 2;task product 2 1;"), 0, new int[][] {{-2, 6}, {-1, 5}, {1, 4}});
        termsAre(Due.circuit("in 3;out 2;task square 2 1;"), 0, new int[][] {{-4, 3}, {-4, 2}, {-1, 1}});
        termsAre(Due.circuit("in 3;out 2;task triple 2 1;"), 0, new int[][] {{2, 4}, {-6, 2}, {-3, 1}});
        due.is("term(2, 0, 0)", sums.term(2, 0, 0), BAD);
        due.is("term(-1, 0, 0)", sums.term(-1, 0, 0), BAD);
        due.is("term(0, -1, 0)", sums.term(0, -1, 0), BAD);
        due.is("term(0, 0, 2)", sums.term(0, 0, 2), BAD);
        due.is("term(0, 0, -1)", sums.term(0, 0, -1), BAD);
        due.is("term(0, far, 0)", sums.term(0, Integer.MAX_VALUE, 0), NONE);
        due.is("FULL", Due.circuit(XOR_OF_SIX).term(5, 0, 0), FULL);
        // GATE 0 (64) and INPUTS 2 to 5.
        due.is("ahead of FULL, COEFFICIENT", Due.circuit(XOR_OF_SIX).term(4, 0, 0), 16);
        due.is("ahead of FULL, set", Due.circuit(XOR_OF_SIX).term(4, 0, 1), 124);
    }

    private void termsAre(GateSums sums, int k, int[][] want) {
        due.is("terms(" + k + ")", sums.terms(k), want.length);
        for (int j = 0; j < want.length; j++) {
            due.is("term(" + k + ", " + j + ", 0)", sums.term(k, j, 0), want[j][0]);
            due.is("term(" + k + ", " + j + ", 1)", sums.term(k, j, 1), want[j][1]);
        }
        due.is("one term more, 0", sums.term(k, want.length, 0), NONE);
        due.is("one term more, 1", sums.term(k, want.length, 1), NONE);
    }

    private void promise18Most() {
        GateSums sums = Due.circuit("in 2;g xor 0 1;out 2;task sum 2 0;");
        due.is("most(0), the first STAGE's", sums.most(0), 3);
        due.is("most(1)", sums.most(1), 2);
        due.is("most(2)", sums.most(2), -3);
        due.is("most(3)", sums.most(3), BAD);
        due.is("most(-1)", sums.most(-1), BAD);
        due.is("no TERMS at all", Due.circuit("in 1;out 0;task sum 1 0;").most(0), 0);
        sums.adder(2);
        due.is("most(0), one between", sums.most(0), 9);
        due.is("no TERMS, most(1)", sums.most(1), 0);
        due.is("no TERMS, most(2)", sums.most(2), 0);
        GateSums one = Due.circuit("in 1;g nand 0 0;g or 0 1;out 2;task product 1 0;");
        due.is("the TERM of no SIGNALS alone, most(1)", one.most(1), 0);
        due.is("the TERM of no SIGNALS alone, most(2)", one.most(2), 1);
        due.is("40 TERMS", Due.circuit(FORTY_TERMS).most(0), 40);
        for (int what = 0; what < 3; what++) {
            due.is("FULL, most(" + what + ")", Due.circuit(XOR_OF_SIX).most(what), FULL);
            due.is("FULL between, most(" + what + ")", Due.circuit(FULL_BETWEEN).most(what), FULL);
        }
    }

    private void promise19Dearest() {
        // 1 x3, less 3 x0, 6 x1; 1 x2.
        GateSums sums = Due.circuit("in 4;out 3;task triple 2 1;");
        int[] sets = {2, 1, 8, 4, NONE};
        for (int j = 0; j < sets.length; j++) {
            due.is("dearest(0, " + j + ")", sums.dearest(0, j), sets[j]);
        }
        due.is("dearest(0, far)", sums.dearest(0, Integer.MAX_VALUE), NONE);
        due.is("dearest(0, -1)", sums.dearest(0, -1), BAD);
        due.is("dearest(1, 0)", sums.dearest(1, 0), BAD);
        due.is("dearest(-1, 0)", sums.dearest(-1, 0), BAD);
        due.is("FULL", Due.circuit(XOR_OF_SIX).dearest(5, 0), FULL);
        due.is("ahead of FULL", Due.circuit(XOR_OF_SIX).dearest(4, 0), 124);
    }

    private void promise20Value() {
        GateSums sums = new GateSums();
        sums.adder(2);
        sums.kind(3, 2);
        for (int v = 0; v < 16; v++) {
            for (int k = 0; k <= 7; k++) {
                due.is("value(" + k + ", " + v + ")", sums.value(k, v), sums.runs(v, 0) - sums.runs(v, 1));
            }
        }
        due.is("a wrong one", sums.value(7, sums.wrong(0)) != 0 ? 1 : 0, 1);
        due.is("value(8, 0)", sums.value(8, 0), BAD);
        due.is("value(-1, 0)", sums.value(-1, 0), BAD);
        due.is("value(0, 16)", sums.value(0, 16), BAD);
        due.is("value(0, -1)", sums.value(0, -1), BAD);
        GateSums six = Due.circuit(XOR_OF_SIX);
        due.is("ahead of FULL", six.value(4, 62), 1);
        due.is("FULL", six.value(5, 62), FULL);
    }

    private void promise21Stands() {
        GateSums sums = new GateSums();
        sums.adder(1);
        due.is("stands(0)", sums.stands(0), 15);
        due.is("stands(1)", sums.stands(1), 7);
        due.is("stands(2)", sums.stands(2), 0);
        due.is("stands(3)", sums.stands(3), BAD);
        due.is("stands(-1)", sums.stands(-1), BAD);
        due.is("the set of none", Due.circuit("in 1;g nand 0 0;g or 0 1;out 2;task product 1 0;").stands(2), 0);
        due.is("FULL", Due.circuit(XOR_OF_SIX).stands(5), FULL);
        due.is("ahead of FULL", Due.circuit(XOR_OF_SIX).stands(4), 125);
    }

    private void promise22Witness() {
        GateSums sums = new GateSums();
        sums.adder(2);
        due.is("a right one", sums.witness(), NONE);
        // -2 x0x1, -1 x1: the fewest SIGNALS.
        due.is("one of one SIGNAL", Due.circuit("in 2;g xor 0 1;out 2;task sum 2 0;").witness(), 2);
        // Less x0, less twice x1, 1 x2: like ones, the least.
        due.is("the least of like ones", Due.circuit("in 3;out 2;task sum 2 0;").witness(), 1);
        due.is("the least of pairs", Due.circuit("in 3;g and 1 2;g and 0 1;out 3 4;task product 1 0;").witness(), 3);
        due.is("the set of none", Due.circuit("in 1;g not 0;out 1;task sum 1 0;").witness(), 0);
        due.is("FULL", Due.circuit(XOR_OF_SIX).witness(), FULL);
        due.is("FULL between", Due.circuit(FULL_BETWEEN).witness(), FULL);
        for (int seed = 0; seed < 300; seed++) {
            GateSums drawn = Due.drawn(seed, 1 + seed % 6, 1 + seed % 12);
            int v = drawn.witness();
            if (v != FULL) {
                boolean fits = v == NONE ? drawn.wrong(1) == 0 : drawn.runs(v, 0) != drawn.runs(v, 1);
                due.is("the witness of draw " + seed + " is wrong", fits ? 1 : 0, 1);
            }
        }
    }

    private void promise23Count() {
        GateSums sums = new GateSums();
        sums.type(-1);
        sums.adder(9);
        sums.right();
        due.is("count(7)", sums.count(7), BAD);
        due.is("count(-1)", sums.count(-1), BAD);
        due.is("count(0)", sums.count(0), 4);
        due.is("count(1)", sums.count(1), 1);
        due.is("count(2)", sums.count(2), 0);
        Due.type(sums, XOR_OF_SIX);
        sums.reads();
        sums.right();
        sums.witness();
        due.is("count(2) behind", sums.count(2), 2);
        due.is("count(3)", sums.count(3), XOR_OF_SIX.length());
        due.is("count(4)", sums.count(4), 6);
        due.is("count(5)", sums.count(5), 5);
        due.is("count(6)", sums.count(6), 1);
        sums.clear();
        Due.type(sums, "nothing");
        sums.reads();
        due.is("a FAULT does not count", sums.count(0) + sums.count(1) + sums.count(2), 7);
    }

    private void promise24Digest() {
        GateSums sums = new GateSums();
        due.is("of a new object", sums.digest(), of(0, 0, 0, 0, 0, 0, 0, -1, -1, -1, -1));
        sums.right();
        sums.type(-1);
        sums.type('x');
        due.is("without a circuit", sums.digest(), of(1, 1, 0, 1, 0, 0, 0, -1, -1, -1, -1));
        sums.adder(1);
        due.is("of an adder", sums.digest(), of(1, 1, 0, 1, 2, 2, 2, 3, 0, 1, 1, 0, 1, 2, 3, 0, 1, 1, 0));
        GateSums not = Due.circuit("in 3;g not 2;out 3 1;task triple 1 2;");
        due.is("with a NOT", not.digest(), of(0, 0, 0, 0, 3, 1, 2, 0, 2, -1, 3, 1, 3, 1, 2, not.wrong(1)));
    }

    private static long of(int... row) {
        long h = 1993;
        for (int v : row) {
            h = 31 * h + v;
        }
        return h;
    }

    private void refusalsChangeNothing() {
        GateSums sums = Due.circuit("in 2;g and 0 1;g not 2;out 3 2;task product 1 1;");
        long[] before = picture(sums);
        int bads = 0;
        int[] odd = {-1, 99, Integer.MIN_VALUE, Integer.MAX_VALUE};
        for (int x : odd) {
            int[] answers = {
                sums.kind(x, 1), sums.kind(0, x), sums.wire(x, 0, 0), sums.wire(0, x, 0), sums.wire(0, 0, x),
                sums.of(x, 0), sums.of(0, x), sums.told(x, 0), sums.told(0, x), sums.adder(x), sums.draw(0, x, 1),
                sums.draw(0, 1, x), sums.runs(x, 0), sums.runs(0, x), sums.signal(x, 0), sums.signal(0, x),
                sums.wrong(x), sums.cures(x), sums.terms(x), sums.term(x, 0, 0), sums.term(0, 0, x), sums.most(x),
                sums.dearest(x, 0), sums.value(x, 0), sums.value(0, x), sums.stands(x), sums.count(x),
            };
            for (int i = 0; i < answers.length; i++) {
                due.is("odd call " + i + " with " + x, answers[i], BAD);
                bads++;
            }
        }
        due.is("each counted", sums.count(0), bads);
        long[] behind = picture(sums);
        for (int i = 0; i < before.length; i++) {
            due.is("picture, place " + i, behind[i], before[i]);
        }
    }

    private static long[] picture(GateSums sums) {
        return new long[] {
            sums.of(0, 0), sums.of(0, 1), sums.of(0, 2), sums.of(1, 0), sums.of(1, 1), sums.told(0, 0), sums.told(0, 1),
            sums.told(1, 0), sums.told(2, 0), sums.told(3, 0), sums.count(3), sums.count(4), sums.count(5),
            sums.count(6), sums.wrong(1), sums.terms(2), sums.term(2, 0, 0),
        };
    }

    /** Numbers at their greatest are as told without a circuit: NO; one more is BAD. */
    private void refusalsWithoutCircuit() {
        GateSums sums = new GateSums();
        int[] noes = {
            sums.kind(11, 7), sums.kind(0, 0), sums.wire(11, 1, 17), sums.wire(0, 0, 17), sums.of(11, 3),
            sums.told(0, 6), sums.told(3, 0), sums.runs(63, 1), sums.signal(17, 63), sums.wrong(1), sums.cures(11),
            sums.right(), sums.terms(12), sums.term(12, Integer.MAX_VALUE, 1), sums.most(2), sums.dearest(12, 99),
            sums.value(12, 63), sums.stands(12), sums.witness(),
        };
        for (int i = 0; i < noes.length; i++) {
            due.is("call " + i + " without a circuit", noes[i], NO);
        }
        int[] bads = {
            sums.kind(12, 7), sums.kind(0, 8), sums.wire(12, 1, 17), sums.wire(0, 2, 0), sums.wire(0, 0, 18),
            sums.of(12, 3), sums.of(0, 4), sums.told(0, 7), sums.told(1, 1), sums.runs(64, 0), sums.runs(0, 2),
            sums.signal(18, 0), sums.signal(0, 64), sums.wrong(2), sums.cures(12), sums.terms(13), sums.term(13, 0, 0),
            sums.term(0, -1, 0), sums.term(0, 0, 2), sums.most(3), sums.dearest(13, 0), sums.dearest(0, -1),
            sums.value(13, 0), sums.value(0, 64), sums.stands(13),
        };
        for (int i = 0; i < bads.length; i++) {
            due.is("wrong call " + i + " without a circuit", bads[i], BAD);
        }
        due.is("BAD counted", sums.count(0), bads.length);
        due.is("NO counted", sums.count(1), noes.length);
    }
}
