import java.util.ArrayList;
import java.util.List;

/** POLYNOMIALS, STAGES, ORDER, FULL, and promises 15 to 22: each sentence that names an edge. */
public final class StageEdgeTests {
    private static final int NONE = -1, BAD = -2, NO = -3, FULL = -4;
    private static final int AND = 1, OR = 2, XOR = 3;
    private static final String[] WORDS = {"not", "and", "or", "xor", "nand", "nor", "xnor", "but"};
    private static final String XOR_OF_SIX = "in6;g xor0 1;g xor6 2;g xor7 3;g xor8 4;g xor9 5;out10;task sum1 0;";
    /** 1 and nothing else: x or not x. */
    private static final String ONE = "in 1;g nand 0 0;g or 0 1;out 2;task product 1 0;";
    /** TERMS of each STAGE of draws (seed, n, g), 40 or 41 at most, between or at the end. */
    private static final int[][] DRAWS = {{952, 5, 12}, {18203, 6, 12}, {1418, 5, 12}, {15846, 6, 12}};
    private static final int[][] SIZES = {
        {3, 4, 7, 13, 13, 13, 25, 40, 40, 18, 11, 8, 8},
        {3, 4, 6, 6, 6, 8, 8, 16, 16, 32, 20, 20, 40},
        {3, 6, 7, 7, 13, 13, 13, 21, 21, 29, 41, 25, 3},
        {3, 6, 7, 7, 7, 10, 10, 10, 13, 25, 33, 33, 41},
    };

    private final Due due = new Due();

    public static void main(String[] args) {
        new StageEdgeTests().all();
    }

    private void all() {
        polynomialsOfGates();
        polynomialsOfLikeSignals();
        coefficientsAreNotZero();
        likeSetsAreOne();
        theSetOfNone();
        stageZero();
        greatestGateFirst();
        theLastStageIsTheRest();
        termsAreInOrder();
        fortyAreNotFull();
        fortyOneAreFull();
        fullOfEachCall();
        fullIsCountedEachTime();
        badComesAheadOfFull();
        noCircuitIsNeverFull();
        changesMendFull();
        changesMakeFull();
        rightIfNoTerms();
        rightAsForAllInputs();
        termAndNotSoMany();
        mostOfAllStages();
        mostOfTheRest();
        dearestFirst();
        dearestNotSoMany();
        valueIsAlike();
        standsAsBits();
        witnessOfFewest();
        witnessIsWrong();
        fewerTermsThanBefore();
        stagesChangeNothing();
        due.end();
    }

    // ---- helpers

    /** COEFFICIENT, set, COEFFICIENT, set, from the greatest on. */
    private static long[] terms(GateSums sums, int k) {
        List<Long> row = new ArrayList<>();
        int size = sums.terms(k);
        for (int j = 0; j < size; j++) {
            row.add((long) sums.term(k, j, 0));
            row.add((long) sums.term(k, j, 1));
        }
        return row.stream().mapToLong(x -> x).toArray();
    }

    private void stageIs(String text, int k, long... want) {
        due.are("STAGE " + k + " of " + text, terms(Due.circuit(text), k), want);
    }

    private GateSums drawn(int i) {
        return Due.drawn(DRAWS[i][0], DRAWS[i][1], DRAWS[i][2]);
    }

    // ---- POLYNOMIALS

    private void polynomialsOfGates() {
        due.sentence("A GATE is as the POLYNOMIAL: NOT 1 less x; AND xy; OR x and y less xy; ..");
        long[][] want = {
            {-1, 1, 1, 0}, {1, 3}, {-1, 3, 1, 2, 1, 1}, {-2, 3, 1, 2, 1, 1}, {-1, 3, 1, 0},
            {1, 3, -1, 2, -1, 1, 1, 0}, {2, 3, -1, 2, -1, 1, 1, 0}, {-1, 3, 1, 1},
        };
        for (int kind = 0; kind < WORDS.length; kind++) {
            String wires = kind == 0 ? " 0" : " 0 1";
            stageIs("in 2;g " + WORDS[kind] + wires + ";out 2;task product 1 0;", 1, want[kind]);
        }
        stageIs("in 2;g but 1 0;out 2;task product 1 0;", 1, -1, 3, 1, 2);
    }

    private void polynomialsOfLikeSignals() {
        due.sentence("x, y may be alike; a SIGNAL times itself is itself");
        long[][] want = {{-1, 1, 1, 0}, {1, 1}, {1, 1}, {}, {-1, 1, 1, 0}, {-1, 1, 1, 0}, {1, 0}, {}};
        for (int kind = 1; kind < WORDS.length; kind++) {
            stageIs("in 1;g " + WORDS[kind] + " 0 0;out 1;task product 1 0;", 1, want[kind]);
        }
        stageIs("in 2;g and 0 1;g and 2 0;out 3;task product 1 0;", 1, 1, 5);
        stageIs("in 2;g and 0 1;g and 2 0;out 3;task product 1 0;", 2, 1, 3);
        stageIs("in 1;out 0;task square 1 0;", 0);
    }

    private void coefficientsAreNotZero() {
        due.sentence("TERMS, each a COEFFICIENT (not 0)");
        stageIs("in 1;out 0;task sum 1 0;", 0);
        stageIs("in 2;out 0 1;task sum 2 0;", 0);
        stageIs("in 2;out 0 0;task sum 1 1;", 0, -1, 2, 2, 1);
        stageIs("in 1;g xor 0 0;out 0 1;task sum 1 0;", 0, 2, 2);
        stageIs("in 1;g xor 0 0;out 0 1;task sum 1 0;", 1);
        stageIs("in 2;g or 0 1;g and 0 1;out 2;task sum 1 1;", 2, -1, 3);
    }

    private void likeSetsAreOne() {
        due.sentence("POLYNOMIALS: all sets unlike");
        stageIs("in 1;out 0 0 0 0 0 0 0;task product 1 0;", 0, 127, 1);
        stageIs("in 1;out 0 0 0 0 0 0 0;task sum 1 0;", 0, 126, 1);
        stageIs("in 2;g and 0 1;g and 1 0;out 2 3;task product 1 0;", 2, 3, 3);
        stageIs("in 2;out 1;task square 2 0;", 0, -4, 3, -3, 2, -1, 1);
    }

    private void theSetOfNone() {
        due.sentence("a set of SIGNALS (their product; of none: 1)");
        stageIs(ONE, 2, 1, 0);
        GateSums sums = Due.circuit(ONE);
        due.is("it stands in no SIGNAL", sums.stands(2), 0);
        due.is("for v 0", sums.value(2, 0), 1);
        due.is("for v 1", sums.value(2, 1), 1);
        due.is("its set is 0, not NONE", sums.dearest(2, 0), 0);
    }

    // ---- STAGES

    private void stageZero() {
        due.sentence("STAGE 0: what the OUTPUTS stand for less what the TASK tells");
        stageIs("in 6;out 5 4 3;task sum 2 1;", 0, 1, 32, 2, 16, 4, 8, -1, 4, -2, 2, -1, 1);
        stageIs("in 6;out 5;task product 2 2;", 0, 1, 32, -4, 10, -2, 9, -2, 6, -1, 5);
        stageIs("in 6;out 5;task product 6 0;", 0, 1, 32);
        stageIs("in 6;out 5;task square 2 2;", 0, 1, 32, -2, 8, -1, 4, -4, 3, -4, 2, -1, 1);
        stageIs("in 6;out 5;task triple 2 2;", 0, 1, 32, 2, 8, 1, 4, -6, 2, -3, 1);
        stageIs("in 6;out 5;task triple 1 0;", 0, 1, 32, -3, 1);
        GateSums square = Due.circuit("in 6;out 0;task square 6 0;");
        due.is("SQUARE 6 0, its TERMS", square.terms(0), 20);
        due.is("SQUARE 6 0, the greatest", square.term(0, 0, 0), -1024);
        due.is("SQUARE 6 0, the greatest's set", square.term(0, 0, 1), 48);
    }

    private void greatestGateFirst() {
        due.sentence("STAGE k and 1: in place of the GATE of the greatest number, of those not yet replaced");
        String text = "in 2;g and 0 1;g or 0 1;g not 2;out 2 3 4;task product 1 0;";
        stageIs(text, 0, 4, 16, 2, 8, 1, 4);
        stageIs(text, 1, 2, 8, -3, 4, 4, 0);
        stageIs(text, 2, -3, 4, -2, 3, 2, 2, 2, 1, 4, 0);
        stageIs(text, 3, -5, 3, 2, 2, 2, 1, 4, 0);
        String unused = "in 2;g and 0 1;g or 0 1;g xor 0 1;out 3;task product 1 0;";
        stageIs(unused, 0, 1, 8);
        stageIs(unused, 1, 1, 8);
        stageIs(unused, 2, -1, 3, 1, 2, 1, 1);
        stageIs(unused, 3, -1, 3, 1, 2, 1, 1);
        for (int i = 0; i < 2; i++) {
            GateSums sums = drawn(i);
            for (int k = 0; k <= 12; k++) {
                due.is("replaced GATES stand nowhere", sums.stands(k) >> DRAWS[i][1] + 12 - k, 0);
            }
        }
    }

    private void theLastStageIsTheRest() {
        due.sentence("The last STAGE (as many as GATES) is the REST");
        for (int gates = 1; gates <= 12; gates++) {
            GateSums sums = Due.circuit("in1;" + "g not0;".repeat(gates) + "out0 " + gates + ";task sum1 0;");
            due.are("the last one of " + gates, terms(sums, gates), -2, 1, 2, 0);
            long[] ahead = gates == 1 ? new long[] {2, 2} : new long[] {-2, 1, 2, 0};
            due.are("the one ahead of it", terms(sums, gates - 1), ahead);
            due.is("INPUTS alone", sums.stands(gates), 1);
            due.is("one more", sums.terms(gates + 1), BAD);
            due.is("one below 0", sums.terms(-1), BAD);
        }
        stageIs("in 1;out 0 0;task sum 1 0;", 0, 2, 1);
        due.is("no GATES: STAGE 0 is the REST", Due.circuit("in 1;out 0 0;task sum 1 0;").most(2), 2);
    }

    private void termsAreInOrder() {
        due.sentence("ORDER: by the greatest SIGNAL that is not in both (the set of none the least)");
        // SIGNALS x0 x1 x2: NOR of all three has each set once.
        String text = "in 3;g or 0 1;g nor 3 2;out 4;task product 1 0;";
        stageIs(text, 2, -1, 7, 1, 6, 1, 5, -1, 4, 1, 3, -1, 2, -1, 1, 1, 0);
        for (int i = 0; i < 2; i++) {
            GateSums sums = drawn(i);
            for (int k = 8; k <= 12; k++) {
                for (int j = 1; j < SIZES[i][k]; j++) {
                    int ahead = sums.term(k, j - 1, 1);
                    int behind = sums.term(k, j, 1);
                    int unlike = Integer.highestOneBit(ahead ^ behind);
                    due.is("STAGE " + k + ", TERM " + j + " is the less", (ahead & unlike) != 0 ? 1 : 0, 1);
                }
            }
        }
    }

    // ---- FULL

    private void fortyAreNotFull() {
        due.sentence("FULL a STAGE has more than 40 TERMS: 40 are not");
        for (int i = 0; i < 2; i++) {
            GateSums sums = drawn(i);
            for (int k = 12; k >= 0; k--) {
                due.is("terms(" + k + ")", sums.terms(k), SIZES[i][k]);
            }
            due.is("the most", sums.most(0), 40);
            due.is("right", sums.right(), 0);
            due.are("nothing is counted", Picture.refusals(sums), 0, 0, 0);
        }
        GateSums rest = drawn(1);
        due.is("the 40th TERM is there", rest.term(12, 39, 1) >= 0 ? 1 : 0, 1);
        due.is("a 41st is not", rest.term(12, 40, 1), NONE);
        due.is("the 40th dearest is there", rest.dearest(12, 39) >= 0 ? 1 : 0, 1);
        due.is("a 41st dearest is not", rest.dearest(12, 40), NONE);
    }

    private void fortyOneAreFull() {
        due.sentence("FULL a STAGE (0 to that asked for) has more than 40 TERMS: 41 are, and all behind them");
        for (int i = 2; i < 4; i++) {
            int first = i == 2 ? 10 : 12;
            GateSums up = drawn(i);
            GateSums down = drawn(i);
            for (int k = 0; k <= 12; k++) {
                due.is("terms(" + k + "), upwards", up.terms(k), k < first ? SIZES[i][k] : FULL);
                due.is("terms, downwards", down.terms(12 - k), 12 - k < first ? SIZES[i][12 - k] : FULL);
            }
            due.are("counted", Picture.refusals(up), 0, 0, 13 - first);
        }
    }

    private void fullOfEachCall() {
        due.sentence("FULL (0 to that asked for; of the REST, of RIGHT, any)");
        for (int i = 2; i < 4; i++) {
            int first = i == 2 ? 10 : 12;
            int all = (1 << DRAWS[i][1]) - 1;
            for (int k = first - 1; k <= 12; k++) {
                GateSums sums = drawn(i);
                long[] got = {
                    sums.terms(k), sums.term(k, 0, 0), sums.term(k, 99, 1), sums.dearest(k, 0), sums.dearest(k, 99),
                    sums.value(k, 0), sums.value(k, all), sums.stands(k),
                };
                int fulls = 0;
                for (long answer : got) {
                    due.is("FULL at " + k, k >= first ? answer : FULL, FULL);
                    fulls += k >= first ? 1 : 0;
                }
                due.are("counted at " + k, Picture.refusals(sums), 0, 0, fulls);
            }
            GateSums sums = drawn(i);
            long[] got = {sums.right(), sums.most(0), sums.most(1), sums.most(2), sums.witness()};
            due.are("of the REST", got, FULL, FULL, FULL, FULL, FULL);
            due.are("counted", Picture.refusals(sums), 0, 0, 5);
        }
    }

    private void fullIsCountedEachTime() {
        due.sentence("Refused, changing nothing but how often: FULL");
        GateSums sums = drawn(2);
        long[] before = Picture.of(sums);
        long counted = sums.count(2);
        for (int i = 1; i <= 9; i++) {
            due.is("witness", sums.witness(), FULL);
            due.is("counted", sums.count(2), counted + i);
        }
        due.are("all stays", Picture.of(sums), before);
        due.is("what it does needs no STAGE", sums.wrong(1) >= 0 ? 1 : 0, 1);
        due.is("cures need no STAGE", sums.cures(11) >= 0 ? 1 : 0, 1);
    }

    private void badComesAheadOfFull() {
        due.sentence("Refused, the first of: BAD, NO, FULL: BAD ahead of FULL");
        GateSums sums = drawn(2);
        long[] got = {
            sums.terms(13), sums.term(13, 0, 0), sums.term(12, -1, 0), sums.term(12, 0, 2), sums.term(10, 0, -1),
            sums.most(3), sums.most(-1), sums.dearest(12, -1), sums.dearest(13, 0), sums.value(12, 32),
            sums.value(12, -1), sums.stands(13),
        };
        for (int i = 0; i < got.length; i++) {
            due.is("call " + i, got[i], BAD);
        }
        due.are("counted", Picture.refusals(sums), got.length, 0, 0);
    }

    private void noCircuitIsNeverFull() {
        due.sentence("Refused, the first of: BAD, NO, FULL: BAD ahead of NO");
        GateSums sums = new GateSums();
        long[] noes = {
            sums.right(), sums.terms(12), sums.term(12, 0, 1), sums.most(0), sums.dearest(12, 0), sums.value(12, 63),
            sums.stands(12), sums.witness(),
        };
        long[] bads = {
            sums.terms(13), sums.term(13, 0, 1), sums.term(0, -1, 0), sums.term(0, 0, 2), sums.most(3),
            sums.dearest(13, 0), sums.dearest(0, -1), sums.value(13, 0), sums.value(0, 64), sums.stands(-1),
        };
        for (int i = 0; i < noes.length; i++) {
            due.is("as told, call " + i, noes[i], NO);
        }
        for (int i = 0; i < bads.length; i++) {
            due.is("not as told, call " + i, bads[i], BAD);
        }
        due.are("counted", Picture.refusals(sums), bads.length, noes.length, 0);
    }

    private void changesMendFull() {
        due.sentence("FULL: of the circuit as it is now");
        GateSums kind = Due.circuit(XOR_OF_SIX);
        due.is("FULL", kind.right(), FULL);
        kind.kind(4, AND);
        due.is("another KIND: the 31 TERMS of five XORED, times x5, and that of the TASK", kind.terms(5), 32);
        GateSums wire = Due.circuit(XOR_OF_SIX);
        due.is("FULL", wire.right(), FULL);
        wire.wire(4, 1, 4);
        due.is("another wire", wire.terms(5), 14);
        GateSums adder = drawn(2);
        due.is("FULL", adder.witness(), FULL);
        adder.adder(3);
        due.is("an adder", adder.witness(), NONE);
        GateSums draw = drawn(2);
        due.is("FULL", draw.most(0), FULL);
        draw.draw(952, 5, 12);
        due.is("another draw", draw.most(0), 40);
        GateSums reads = drawn(2);
        due.is("FULL", reads.terms(12), FULL);
        Due.type(reads, ONE);
        reads.reads();
        due.is("a text", reads.terms(2), 1);
    }

    private void changesMakeFull() {
        due.sentence("FULL: of the circuit as it is now, the other way round");
        GateSums sums = Due.circuit(XOR_OF_SIX);
        sums.kind(4, AND);
        due.is("not FULL", sums.terms(5), 32);
        sums.kind(4, XOR);
        due.is("FULL", sums.terms(5), FULL);
        due.is("STAGES ahead of it are not", sums.terms(4), 32);
        due.is("a refused change changes nothing", sums.kind(4, 0), BAD);
        due.is("FULL, still", sums.terms(5), FULL);
    }

    // ---- promises 15 to 22

    private void rightIfNoTerms() {
        due.sentence("right: Whether the REST has no TERMS: 1 (it is RIGHT then), 0");
        for (int b = 1; b <= 3; b++) {
            due.is("adder(" + b + ")", Due.adding(b).right(), 1);
        }
        due.is("one TERM of none", Due.circuit(ONE).right(), 0);
        due.is("one TERM of all INPUTS", Due.circuit("in 2;g and 0 1;out 2;task product 2 0;").right(), 0);
        due.is("no GATES, no TERMS", Due.circuit("in 1;out 0;task sum 1 0;").right(), 1);
        due.is("no GATES, a TERM", Due.circuit("in 1;out 0 0;task sum 1 0;").right(), 0);
        GateSums last = Due.circuit("in 2;g xor 0 1;g xor 0 1;g xor 2 3;out 4;task product 2 0;");
        due.is("TERMS until the last STAGE alone", last.right(), 1);
        due.is("TERMS ahead of it", last.terms(2) > 0 ? 1 : 0, 1);
    }

    private void rightAsForAllInputs() {
        due.sentence("right: 1 (it is RIGHT then)");
        for (int seed = 0; seed < 400; seed++) {
            GateSums sums = Due.drawn(seed, 1 + seed % 3, 1 + seed % 5);
            due.is("draw " + seed, sums.right(), sums.wrong(1) == 0 ? 1 : 0);
        }
    }

    private void termAndNotSoMany() {
        due.sentence("term: NONE: not so many (a COEFFICIENT may be -1, too). BAD: j below 0, too");
        GateSums sums = Due.circuit("in 2;g xor 0 1;out 2;task sum 2 0;");
        due.are("the last TERM of STAGE 0", new long[] {sums.term(0, 2, 0), sums.term(0, 2, 1)}, -1, 1);
        due.are("one behind it", new long[] {sums.term(0, 3, 0), sums.term(0, 3, 1)}, NONE, NONE);
        due.are("the last TERM of STAGE 1", new long[] {sums.term(1, 1, 0), sums.term(1, 1, 1)}, -1, 2);
        due.are("one behind that", new long[] {sums.term(1, 2, 0), sums.term(1, 2, 1)}, NONE, NONE);
        due.are("far behind", new long[] {sums.term(1, 40, 0), sums.term(1, Integer.MAX_VALUE, 1)}, NONE, NONE);
        due.are("neither is counted", Picture.refusals(sums), 0, 0, 0);
        due.is("j -1", sums.term(1, -1, 0), BAD);
        due.is("j far below", sums.term(1, Integer.MIN_VALUE, 0), BAD);
        due.is("BAD ahead of NONE", sums.term(1, 2, 2), BAD);
        due.are("these are", Picture.refusals(sums), 3, 0, 0);
        due.is("no TERMS", Due.adding(1).term(2, 0, 0), NONE);
        GateSums low = Due.circuit("in 1;out 0;task triple 1 0;");
        due.is("a COEFFICIENT as BAD is, but none", low.term(0, 0, 0), -2);
        due.are("not counted", Picture.refusals(low), 0, 0, 0);
    }

    private void mostOfAllStages() {
        due.sentence("most: The most TERMS of all STAGES (0)");
        due.is("in the first one", Due.circuit("in 2;g xor 0 1;out 2;task sum 2 0;").most(0), 3);
        due.is("in the last one", Due.circuit("in 2;g xor 0 1;out 2;task product 2 0;").most(0), 3);
        due.is("between", drawn(0).most(0), 40);
        due.is("no TERMS at all", Due.circuit("in 1;out 0;task sum 1 0;").most(0), 0);
        due.is("40 in the last one", drawn(1).most(0), 40);
        due.is("what 3", Due.adding(1).most(3), BAD);
        due.is("what -1", Due.adding(1).most(-1), BAD);
    }

    private void mostOfTheRest() {
        due.sentence("most: how many SIGNALS stand in a TERM of the REST at most (no TERMS: 0), all COEFFICIENTS");
        due.are("no TERMS", new long[] {Due.adding(2).most(1), Due.adding(2).most(2)}, 0, 0);
        due.are("the set of none", new long[] {Due.circuit(ONE).most(1), Due.circuit(ONE).most(2)}, 0, 1);
        GateSums all = Due.circuit("in6;g and0 1;g and6 2;g and7 3;g and8 4;g and9 5;out10;task product1 0;");
        due.are("all INPUTS", new long[] {all.most(1), all.most(2)}, 6, 1);
        GateSums one = Due.circuit("in 3;g xor 0 1;out 2 3;task sum 2 0;");
        // x2 - 4 x0x1 + x0: of the REST, not of STAGE 0.
        due.are("of the REST", new long[] {one.most(1), one.most(2)}, 2, -2);
        GateSums first = Due.circuit("in 2;g but 0 0;g and 0 1;g and 2 3;out 4 0;task product 2 0;");
        due.are("fewer than ahead of it", new long[] {first.most(1), first.most(2)}, 1, 2);
        GateSums below = Due.circuit("in 2;out 0;task triple 1 1;");
        due.are("below 0 together", new long[] {below.most(1), below.most(2)}, 1, -1);
    }

    private void dearestFirst() {
        due.sentence("dearest: by how much it is from 0, the most first, of like ones the greater in ORDER first");
        // x4 + 2 x3 - 6 x1 - 3 x0 + x2: 6, 3, 2, then x4 ahead of x2.
        GateSums sums = Due.circuit("in 5;out 4 3;task triple 2 1;");
        int[] want = {2, 1, 8, 16, 4, NONE};
        for (int j = 0; j < want.length; j++) {
            due.is("dearest(0, " + j + ")", sums.dearest(0, j), want[j]);
        }
        // - 4 x0x1 - 4 x1 - x0 + 4 x4 + 2 x3 + x2: below 0 or above makes no difference.
        GateSums like = Due.circuit("in 5;out 2 3 4;task square 2 0;");
        int[] alike = {16, 3, 2, 8, 4, 1, NONE};
        for (int j = 0; j < alike.length; j++) {
            due.is("like ones, " + j, like.dearest(0, j), alike[j]);
        }
        GateSums none = Due.circuit("in 1;g not 0;out 1;task product 1 0;");
        due.is("the set of none is the least", none.dearest(1, 0), 1);
        due.is("the set of none, its own", none.dearest(1, 1), 0);
    }

    private void dearestNotSoMany() {
        due.sentence("dearest: NONE: not so many. BAD");
        GateSums sums = Due.adding(1);
        due.is("the last one", sums.dearest(0, 3), 1);
        due.is("one behind it", sums.dearest(0, 4), NONE);
        due.is("far behind", sums.dearest(0, Integer.MAX_VALUE), NONE);
        due.is("no TERMS", sums.dearest(2, 0), NONE);
        due.are("not counted", Picture.refusals(sums), 0, 0, 0);
        due.is("below 0", sums.dearest(0, -1), BAD);
        due.is("STAGE 3", sums.dearest(3, 0), BAD);
        due.is("STAGE -1", sums.dearest(-1, 0), BAD);
        due.are("counted", Picture.refusals(sums), 3, 0, 0);
    }

    private void valueIsAlike() {
        due.sentence("value: what the OUTPUTS stand for less what the TASK tells, at each STAGE");
        String[] texts = {
            "in 2;g xor 0 1;g nor 2 0;out 3 2;task triple 1 1;", "in 1;out 0;task sum 1 0;",
            "in 3;g but 2 0;g nand 3 1;g xnor 4 4;out 5 3;task square 2 1;",
            "in 4;g or 3 0;g and 1 4;out 5 4 5;task product 2 2;",
        };
        for (String text : texts) {
            GateSums sums = Due.circuit(text);
            for (int v = 0; v < 1 << sums.count(4); v++) {
                for (int k = 0; k <= sums.count(5); k++) {
                    due.is(text + " value(" + k + ", " + v + ")", sums.value(k, v), sums.runs(v, 0) - sums.runs(v, 1));
                }
            }
        }
        for (int i = 0; i < 2; i++) {
            GateSums sums = drawn(i);
            for (int v = 3; v < 1 << DRAWS[i][1]; v += 4) {
                int want = sums.runs(v, 0) - sums.runs(v, 1);
                for (int k = 0; k <= 12; k++) {
                    due.is("draw " + DRAWS[i][0] + " value(" + k + ", " + v + ")", sums.value(k, v), want);
                }
            }
        }
        GateSums far = Due.circuit("in 6;out 0;task square 6 0;");
        due.is("far below 0", far.value(0, 63), 1 - 3969);
        due.is("the greatest v and one", far.value(0, 64), BAD);
        due.is("for 0", Due.circuit("in 6;g nor 0 0;out 6 6 6 6 6 6 6;task sum 1 0;").value(1, 0), 127);
        due.is("a value as NONE is", Due.circuit("in 2;out 0;task sum 1 1;").value(0, 2), -1);
    }

    private void standsAsBits() {
        due.sentence("stands: SIGNALS (INPUTS, GATES) that stand in TERMS of STAGE k, as bits");
        due.is("no TERMS", Due.adding(1).stands(2), 0);
        due.is("the set of none", Due.circuit(ONE).stands(2), 0);
        due.is("a GATE alone", Due.circuit(ONE).stands(0), 4);
        GateSums twelve = Due.circuit("in6;" + "g not0;".repeat(12) + "out17;task product1 0;");
        due.is("the last SIGNAL", twelve.stands(0), 1 << 17);
        due.is("INPUTS and GATES", Due.adding(3).stands(0), 1 << 6 | 1 << 9 | 1 << 14 | 1 << 17 | 63);
        due.is("one that falls away stands no more", Due.circuit("in 2;g xor 1 1;out 2;task sum 1 0;").stands(1), 1);
        due.is("STAGE 3", Due.adding(1).stands(3), BAD);
    }

    private void witnessOfFewest() {
        due.sentence("witness: its TERM of fewest SIGNALS, of like ones the least in ORDER; NONE: no TERMS");
        due.is("no TERMS", Due.adding(3).witness(), NONE);
        due.is("no GATES, no TERMS", Due.circuit("in 1;out 0;task sum 1 0;").witness(), NONE);
        due.is("the set of none", Due.circuit("in 6;g not 0;out 6;task sum 1 0;").witness(), 0);
        due.is("all INPUTS", Due.circuit("in 2;g and 0 1;out 2;task product 2 0;").witness(), 3);
        // x0x1 and x2: x2 has fewer, x0x1 is the less in ORDER.
        due.is("fewest ahead of least", Due.circuit("in 3;g and 0 1;out 3 2;task product 1 0;").witness(), 4);
        due.is("the least of like ones", Due.circuit("in 3;out 2 1;task product 1 0;").witness(), 2);
        // x0x3 and x1x2: the greatest SIGNAL decides, so x1x2.
        due.is("the least of pairs", Due.circuit("in 4;g and 0 3;g and 1 2;out 4 5;task product 1 0;").witness(), 6);
        GateSums right = Due.adding(1);
        right.witness();
        due.are("NONE is not counted", Picture.refusals(right), 0, 0, 0);
    }

    private void witnessIsWrong() {
        due.sentence("witness: A v for which it is wrong");
        for (int seed = 0; seed < 400; seed++) {
            GateSums sums = Due.drawn(seed, 1 + seed % 6, 1 + seed % 12);
            int v = sums.witness();
            if (v != FULL) {
                boolean fits = v == NONE ? sums.wrong(1) == 0 : sums.runs(v, 0) != sums.runs(v, 1);
                due.is("draw " + seed, fits ? 1 : 0, 1);
            }
        }
    }

    private void fewerTermsThanBefore() {
        due.sentence("STAGES have nothing of those of a former circuit");
        GateSums sums = Due.circuit("in 3;out 2 1;task triple 1 0;");
        due.are("x2 + 2 x1 - 3 x0", terms(sums, 0), 1, 4, 2, 2, -3, 1);
        Due.type(sums, "in 3;out 2 1;task product 1 0;");
        due.is("reads", sums.reads(), 0);
        due.are("x2 + 2 x1", terms(sums, 0), 1, 4, 2, 2);
        due.are("dearest", new long[] {sums.dearest(0, 0), sums.dearest(0, 1), sums.dearest(0, 2)}, 2, 4, NONE);
        due.are("value, stands", new long[] {sums.value(0, 7), sums.stands(0)}, 3, 6);
        due.are("most, witness", new long[] {sums.most(0), sums.most(1), sums.most(2), sums.witness()}, 2, 1, 3, 2);
        GateSums wired = Due.circuit("in 2;g xor 0 1;out 2;task product 2 0;");
        due.are("x0 and x1 less 2 x0x1", new long[] {wired.most(0), wired.most(1), wired.witness()}, 3, 2, 1);
        wired.wire(0, 1, 0);
        due.are("nothing", new long[] {wired.most(0), wired.most(1), wired.most(2), wired.witness()}, 1, 0, 0, NONE);
        due.are("nothing, too", new long[] {wired.term(1, 0, 0), wired.dearest(1, 0)}, NONE, NONE);
        due.is("nothing for any v", wired.value(1, 3), 0);
        due.are("nothing, either", new long[] {wired.stands(1), wired.terms(1), wired.right()}, 0, 0, 1);
    }

    private void stagesChangeNothing() {
        due.sentence("what a STAGE tells does not hang on what was asked ahead of it");
        for (int i = 0; i < 2; i++) {
            GateSums asked = drawn(i);
            asked.right();
            for (int k = 12; k >= 8; k--) {
                GateSums fresh = drawn(i);
                due.are("STAGE " + k, terms(asked, k), terms(fresh, k));
            }
        }
        GateSums changed = Due.circuit("in 2;g xor 0 1;g and 0 1;out 2 3;task sum 1 1;");
        due.is("right", changed.right(), 1);
        changed.kind(1, OR);
        due.are("a KIND changes STAGES", terms(changed, 1), 1, 4, -2, 3, 1, 2, 1, 1);
        changed.wire(1, 1, 0);
        due.are("a wire changes STAGES", terms(changed, 1), 1, 4, -1, 2, 1, 1);
    }
}
