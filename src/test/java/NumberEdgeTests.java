import java.util.Arrays;
import java.util.List;

/**
 * "Refused, changing nothing but how often, the first of: BAD a number is not as told; NO there is no circuit; FULL":
 * of each number of each call the least and the greatest one that is taken and the first ones that are not, without a
 * circuit and with circuits of many sizes; what is counted, and that all else stays.
 */
public final class NumberEdgeTests {
    private static final int BAD = -2, NO = -3, FULL = -4, TAKEN = 0;
    private static final String[] REFUSALS = {"BAD", "NO", "FULL"};

    private enum Number {
        BYTE, GATE, KIND, WAY, AHEAD, OF, TOLD, PLACE, BITS, SEED, SIZE, GATES, INPUTS, TWO, THREE, SIGNAL, STAGE, RANK,
        COUNT
    }

    /** What a call is refused for want of, its numbers being as told. */
    private enum Need { ROOM, NOTHING, CIRCUIT, STAGE, REST }

    private interface Run {
        long on(GateSums sums, int[] a);
    }

    private record Call(String name, Need need, boolean changes, Run run, Number... numbers) { }

    private static final List<Call> CALLS = List.of(
        new Call("type", Need.ROOM, true, (s, a) -> s.type(a[0]), Number.BYTE),
        new Call("kind", Need.CIRCUIT, true, (s, a) -> s.kind(a[0], a[1]), Number.GATE, Number.KIND),
        new Call("wire", Need.CIRCUIT, true, (s, a) -> s.wire(a[0], a[1], a[2]), Number.GATE, Number.WAY, Number.AHEAD),
        new Call("of", Need.CIRCUIT, false, (s, a) -> s.of(a[0], a[1]), Number.GATE, Number.OF),
        new Call("told", Need.CIRCUIT, false, (s, a) -> s.told(a[0], a[1]), Number.TOLD, Number.PLACE),
        new Call("adder", Need.NOTHING, true, (s, a) -> s.adder(a[0]), Number.BITS),
        new Call("draw", Need.NOTHING, true, (s, a) -> s.draw(a[0], a[1], a[2]),
            Number.SEED, Number.SIZE, Number.GATES),
        new Call("runs", Need.CIRCUIT, false, (s, a) -> s.runs(a[0], a[1]), Number.INPUTS, Number.TWO),
        new Call("signal", Need.CIRCUIT, false, (s, a) -> s.signal(a[0], a[1]), Number.SIGNAL, Number.INPUTS),
        new Call("wrong", Need.CIRCUIT, false, (s, a) -> s.wrong(a[0]), Number.TWO),
        new Call("cures", Need.CIRCUIT, false, (s, a) -> s.cures(a[0]), Number.GATE),
        new Call("right", Need.REST, false, (s, a) -> s.right()),
        new Call("terms", Need.STAGE, false, (s, a) -> s.terms(a[0]), Number.STAGE),
        new Call("term", Need.STAGE, false, (s, a) -> s.term(a[0], a[1], a[2]), Number.STAGE, Number.RANK, Number.TWO),
        new Call("most", Need.REST, false, (s, a) -> s.most(a[0]), Number.THREE),
        new Call("dearest", Need.STAGE, false, (s, a) -> s.dearest(a[0], a[1]), Number.STAGE, Number.RANK),
        new Call("value", Need.STAGE, false, (s, a) -> s.value(a[0], a[1]), Number.STAGE, Number.INPUTS),
        new Call("stands", Need.STAGE, false, (s, a) -> s.stands(a[0]), Number.STAGE),
        new Call("witness", Need.REST, false, (s, a) -> s.witness()),
        new Call("count", Need.NOTHING, false, (s, a) -> s.count(a[0]), Number.COUNT),
        new Call("digest", Need.NOTHING, false, (s, a) -> s.digest()));

    private static final List<Shape> SHAPES = List.of(
        Shape.empty("", -10),
        Shape.empty("in 2;x", -15),
        Shape.empty(" ".repeat(120), -130),
        Shape.told("in 1;out 0;task sum 1 0;", 1, 1),
        Shape.told("in 1;g not 0;out 1 0;task triple 1 0;", 1, 2, 0),
        Shape.told("in 2;g xor 0 1;g not 2;out 3 2 0;task product 1 1;", 2, 3, 3, 0),
        Shape.told("in 3;g not 2;g and 3 0;g but 4 4;out 5 4 3 2;task square 2 1;", 3, 4, 0, 1, 7),
        Shape.told("in 4;g nor 3 2;out 4 0 1 2 3;task sum 2 2;", 4, 5, 5),
        Shape.told("in 5;g xnor 4 0;g nand 5 1;out 0 1 2 3 6 5;task triple 1 4;", 5, 6, 6, 4),
        Shape.told("in 6;g or 0 5;out 6 5 4 3 2 1 0;task square 6 0;", 6, 7, 2).filled(),
        Shape.told("in6;" + "g not0;".repeat(11) + "g or0 16;out17;task sum1 0;", 6, 1,
            0, 0, 0, 0, 0, 0, 0, 0, 0, 0, 0, 2).filled(),
        Shape.told("in6;g xor0 1;g xor6 2;g xor7 3;g xor8 4;g xor9 5;out10;task sum1 0;", 6, 1,
            3, 3, 3, 3, 3).fullFrom(5),
        Shape.drawn(952, 5, 3, 2, 1, 5, 7, 6, 2, 3, 2, 2, 6, 7),
        Shape.drawn(1418, 5, 6, 7, 3, 0, 4, 6, 3, 3, 2, 6, 3, 5).fullFrom(10),
        Shape.drawn(18203, 6, 2, 5, 5, 2, 6, 2, 3, 6, 6, 0, 6, 0),
        Shape.drawn(15846, 6, 2, 5, 2, 2, 0, 4, 6, 7, 2, 6, 5, 5).fullFrom(12));

    private final Due due = new Due();

    public static void main(String[] args) {
        new NumberEdgeTests().all();
    }

    private void all() {
        for (Shape shape : SHAPES) {
            for (Call call : CALLS) {
                due.sentence(call.name() + " on " + shape);
                taken(shape, call, new int[call.numbers().length], 0);
                for (int wrong = 0; wrong < call.numbers().length; wrong++) {
                    refused(shape, call, new int[call.numbers().length], 0, wrong);
                }
            }
        }
        countsTo511();
        due.end();
    }

    /** All numbers are the least or the greatest that is as told. */
    private void taken(Shape shape, Call call, int[] a, int i) {
        if (i == a.length) {
            look(shape, call, a, want(shape, call, a));
            return;
        }
        int[] range = range(shape, call.numbers()[i], a);
        for (int x : range[0] > range[1] ? new int[0] : range) {
            a[i] = x;
            taken(shape, call, a, i + 1);
        }
    }

    /** One number is beside its range; those behind it are such as are told without a circuit. */
    private void refused(Shape shape, Call call, int[] a, int i, int wrong) {
        if (i == a.length) {
            look(shape, call, a, BAD);
            return;
        }
        Shape told = i <= wrong ? shape : SHAPES.get(0);
        int[] range = range(told, call.numbers()[i], a);
        int[] tries = i == wrong ? beside(range) : range[0] > range[1] ? new int[0] : range;
        for (int x : tries) {
            a[i] = x;
            refused(shape, call, a, i + 1, wrong);
        }
    }

    private static int[] beside(int[] range) {
        int[] tries = {range[0] - 1, range[1] + 1, Integer.MIN_VALUE, Integer.MAX_VALUE};
        return Arrays.stream(tries).filter(x -> x < range[0] || x > range[1]).distinct().toArray();
    }

    private static int[] range(Shape shape, Number number, int[] a) {
        boolean there = shape.isThere();
        switch (number) {
            case BYTE: return new int[] {0, 127};
            case GATE: return new int[] {0, shape.gates() - 1};
            case KIND: return new int[] {shape.hasGate(a[0]) && !shape.isNot(a[0]) ? 1 : 0, shape.isNot(a[0]) ? 0 : 7};
            case WAY: return shape.isNot(a[0]) ? new int[2] : new int[] {0, 1};
            case AHEAD: return new int[] {0, shape.hasGate(a[0]) ? shape.inputs + a[0] - 1 : 17};
            case OF: case TOLD: return new int[] {0, 3};
            case PLACE: return new int[] {0, a[0] == 0 ? shape.outputs - 1 : 0};
            case BITS: return new int[] {1, 3};
            case SEED: return new int[] {0, 999999};
            case SIZE: return new int[] {1, 6};
            case GATES: return new int[] {1, 12};
            case INPUTS: return new int[] {0, (1 << shape.inputs) - 1};
            case TWO: return new int[] {0, 1};
            case THREE: return new int[] {0, 2};
            case SIGNAL: return new int[] {0, there ? shape.inputs + shape.gates() - 1 : 17};
            case STAGE: return new int[] {0, shape.gates()};
            case RANK: return new int[] {0, Integer.MAX_VALUE};
            case COUNT: return new int[] {0, 6};
            default: throw new IllegalStateException(number.name());
        }
    }

    private static int want(Shape shape, Call call, int[] a) {
        switch (call.need()) {
            case NOTHING: return TAKEN;
            case ROOM: return shape.isFilled() ? FULL : TAKEN;
            case CIRCUIT: return shape.isThere() ? TAKEN : NO;
            default:
                int last = call.need() == Need.REST ? shape.gates() : a[0];
                return !shape.isThere() ? NO : last >= shape.firstFull ? FULL : TAKEN;
        }
    }

    private void look(Shape shape, Call call, int[] a, int want) {
        String label = call.name() + Arrays.toString(a);
        GateSums sums = shape.make();
        long[] before = Picture.of(sums);
        long[] counted = Picture.refusals(sums);
        long got = call.run().on(sums, a);
        long[] nowCounted = Picture.refusals(sums);
        if (want != TAKEN) {
            due.is(label, got, want);
        }
        for (int i = 0; i < 3; i++) {
            due.is(REFUSALS[i] + " counted by " + label, nowCounted[i] - counted[i], want == BAD - i ? 1 : 0);
        }
        if (want != TAKEN || !call.changes()) {
            due.are("all stays behind " + label, Picture.of(sums), before);
            due.is("THE TEXT stays behind " + label, sums.reads(), shape.readAgain);
            due.are("read again behind " + label, Picture.of(sums), before);
        }
    }

    /** An object's 512 calls may all be refused but one. */
    private void countsTo511() {
        due.sentence("An object is used for at most 512 calls");
        GateSums bad = new GateSums();
        GateSums no = new GateSums();
        GateSums full = Due.drawn(1418, 5, 12);
        for (int i = 0; i < 511; i++) {
            due.is("adder(0)", bad.adder(0), BAD);
            due.is("witness()", no.witness(), NO);
            due.is("terms(10)", i < 510 ? full.terms(10) : FULL, FULL);
        }
        due.is("BAD counted", bad.count(0), 511);
        due.is("NO counted", no.count(1), 511);
        due.is("FULL counted", full.count(2), 510);
    }
}
