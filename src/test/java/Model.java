import java.util.ArrayList;
import java.util.Comparator;
import java.util.List;
import java.util.Map;
import java.util.TreeMap;
import java.util.regex.Matcher;
import java.util.regex.Pattern;

/**
 * What the document says, said once more in other ways, with the Java library: truth tables in place of
 * formulas, maps in place of rows, nothing kept from one call to the next.
 */
final class Model {
    static final int NONE = -1, BAD = -2, NO = -3, FULL = -4;
    private static final List<String> GATE_WORDS =
        List.of("not", "and", "or", "xor", "nand", "nor", "xnor", "but");
    private static final List<String> TASK_WORDS = List.of("sum", "product", "square", "triple");
    /** By KIND: what it is for x y = 00, 10, 01, 11. */
    private static final int[][] TRUTH = {
        {1, 0, 1, 0}, {0, 0, 0, 1}, {0, 1, 1, 1}, {0, 1, 1, 0},
        {1, 1, 1, 0}, {1, 0, 0, 0}, {1, 0, 0, 1}, {0, 1, 0, 0},
    };

    static final class Net {
        int n;
        final List<int[]> gates = new ArrayList<>();
        final List<Integer> outs = new ArrayList<>();
        int task;
        int p;
        int q;

        int signals() {
            return n + gates.size();
        }
    }

    private record Token(String text, int place) { }

    /** A refusal on its way out of a call. */
    private static final class Refused extends RuntimeException {
        private static final long serialVersionUID = 1;
        final int why;

        Refused(int why) {
            super(null, null, false, false);
            this.why = why;
        }
    }

    private final StringBuilder text = new StringBuilder();
    private final int[] refusals = new int[3];
    Net net;

    long call(String name, int... a) {
        try {
            return answer(name, a);
        } catch (Refused refused) {
            refusals[-2 - refused.why]++;
            return refused.why;
        }
    }

    private long answer(String name, int[] a) {
        switch (name) {
            case "type": return type(a[0]);
            case "clear": int had = text.length(); text.setLength(0); return had;
            case "reads": return reads();
            case "kind": return kind(a[0], a[1]);
            case "wire": return wire(a[0], a[1], a[2]);
            case "of": return of(a[0], a[1]);
            case "told": return told(a[0], a[1]);
            case "adder": return adder(a[0]);
            case "draw": return draw(a[0], a[1], a[2]);
            case "runs": return runs(a[0], a[1]);
            case "signal": return signal(a[0], a[1]);
            case "wrong": return wrong(a[0]);
            case "cures": return cures(a[0]);
            case "right": return rest().isEmpty() ? 1 : 0;
            case "terms": return stage(a[0], true).size();
            case "term": return term(a[0], a[1], a[2]);
            case "most": return most(a[0]);
            case "dearest": return dearest(a[0], a[1]);
            case "value": return value(a[0], a[1]);
            case "stands": return stage(a[0], true).keySet().stream().reduce(0, (x, y) -> x | y);
            case "witness": return witness();
            case "count": return count(a[0]);
            case "digest": return digest();
            default: throw new IllegalArgumentException(name);
        }
    }

    // ---- refusals

    private static void bad(boolean isBad) {
        if (isBad) {
            throw new Refused(BAD);
        }
    }

    private static boolean out(int x, int least, int behind) {
        return x < least || x >= behind;
    }

    private void needNet() {
        if (net == null) {
            throw new Refused(NO);
        }
    }

    private int gateLimit() {
        return net == null ? 12 : net.gates.size();
    }

    private int inputLimit() {
        return 1 << (net == null ? 6 : net.n);
    }

    // ---- circuits

    private int type(int c) {
        bad(out(c, 0, 128));
        if (text.length() == 120) {
            throw new Refused(FULL);
        }
        return text.append((char) c).length();
    }

    private int kind(int g, int kind) {
        bad(out(g, 0, gateLimit()) || out(kind, 0, 8));
        if (net != null) {
            bad(net.gates.get(g)[0] == 0 ? kind != 0 : kind == 0);
        }
        needNet();
        int was = net.gates.get(g)[0];
        net.gates.get(g)[0] = kind;
        return was;
    }

    private int wire(int g, int way, int signal) {
        bad(out(g, 0, gateLimit()) || out(way, 0, 2));
        bad(out(signal, 0, net == null ? 18 : net.n + g));
        bad(net != null && way == 1 && net.gates.get(g)[0] == 0);
        needNet();
        int was = net.gates.get(g)[1 + way];
        net.gates.get(g)[1 + way] = signal;
        return was;
    }

    private int of(int g, int what) {
        bad(out(g, 0, gateLimit()) || out(what, 0, 4));
        needNet();
        if (what < 3) {
            return net.gates.get(g)[what];
        }
        int s = net.n + g;
        return (int) (net.gates.stream().filter(h -> h[1] == s || h[2] == s).count()
            + net.outs.stream().filter(o -> o == s).count());
    }

    private int told(int what, int i) {
        bad(out(what, 0, 4) || out(i, 0, what != 0 ? 1 : net == null ? 7 : net.outs.size()));
        needNet();
        return what == 0 ? net.outs.get(i) : what == 1 ? net.task : what == 2 ? net.p : net.q;
    }

    private int adder(int b) {
        bad(out(b, 1, 4));
        net = new Net();
        net.n = 2 * b;
        net.p = b;
        net.q = b;
        int carry = NONE;
        for (int i = 0; i < b; i++) {
            int s = net.signals();
            if (i == 0) {
                net.gates.add(new int[] {3, 0, b});
                net.gates.add(new int[] {1, 0, b});
                net.outs.add(s);
                carry = s + 1;
            } else {
                net.gates.add(new int[] {3, i, b + i});
                net.gates.add(new int[] {3, s, carry});
                net.gates.add(new int[] {1, i, b + i});
                net.gates.add(new int[] {1, s, carry});
                net.gates.add(new int[] {2, s + 2, s + 3});
                net.outs.add(s + 1);
                carry = s + 4;
            }
        }
        net.outs.add(carry);
        return net.gates.size();
    }

    private int draw(int seed, int n, int g) {
        bad(out(seed, 0, 1000000) || out(n, 1, 7) || out(g, 1, 13));
        net = new Net();
        net.n = n;
        net.p = 1;
        long x = seed;
        while (net.gates.size() < g) {
            x = x * 1103515245L + 12345 & 0x7FFFFFFFL;
            int ahead = net.signals();
            int kind = (int) (x >> 16 & 7);
            net.gates.add(new int[] {kind, (int) ((x >> 10) % ahead), kind == 0 ? NONE : (int) ((x >> 15) % ahead)});
        }
        for (int i = 1; i <= 2 && i <= g; i++) {
            net.outs.add(n + g - i);
        }
        return g;
    }

    // ---- the text: the first token with which no text could begin

    private int reads() {
        List<Token> tokens = new ArrayList<>();
        Matcher matcher = Pattern.compile("[a-zA-Z]+|[0-9]+|[^ ]", Pattern.DOTALL).matcher(text);
        while (matcher.find()) {
            tokens.add(new Token(matcher.group(), matcher.start()));
        }
        Net read = new Net();
        String state = "in";
        for (Token token : tokens) {
            state = step(read, state, token.text());
            if (state == null) {
                return -10 - token.place();
            }
        }
        if (!state.equals("end")) {
            return -10 - text.length();
        }
        net = read;
        return net.gates.size();
    }

    /** The state behind a token; null: it can not stand there. */
    private static String step(Net read, String state, String token) {
        boolean semicolon = token.equals(";");
        switch (state) {
            case "in": return token.equals("in") ? "n" : null;
            case "n":
                read.n = number(token, 1, 6);
                return read.n == NONE ? null : "n;";
            case "n;": case "gate;": return semicolon ? "item" : null;
            case "item":
                return token.equals("out") ? "first" : token.equals("g") && read.gates.size() < 12 ? "kind" : null;
            case "kind":
                int kind = GATE_WORDS.indexOf(token);
                read.gates.add(new int[] {kind, NONE, NONE});
                return kind < 0 ? null : "x";
            case "x": case "y":
                int[] gate = read.gates.get(read.gates.size() - 1);
                int way = state.equals("x") ? 1 : 2;
                gate[way] = number(token, 0, read.signals() - 2);
                return gate[way] == NONE ? null : way == 1 && gate[0] != 0 ? "y" : "gate;";
            case "first": case "more":
                if (semicolon && state.equals("more")) {
                    return "task";
                }
                int signal = read.outs.size() == 7 ? NONE : number(token, 0, read.signals() - 1);
                read.outs.add(signal);
                return signal == NONE ? null : "more";
            case "task": return token.equals("task") ? "taskkind" : null;
            case "taskkind":
                read.task = TASK_WORDS.indexOf(token);
                return read.task < 0 ? null : "p";
            case "p":
                read.p = number(token, 1, read.n);
                return read.p == NONE ? null : "q";
            case "q":
                read.q = number(token, 0, read.n - read.p);
                return read.q == NONE ? null : "task;";
            case "task;": return semicolon ? "end" : null;
            default: return null;
        }
    }

    private static int number(String token, int least, int most) {
        if (!token.matches("[0-9]{1,2}")) {
            return NONE;
        }
        int number = Integer.parseInt(token);
        return number < least || number > most ? NONE : number;
    }

    // ---- what it does

    private int bit(int s, int v) {
        if (s < net.n) {
            return v >> s & 1;
        }
        int[] gate = net.gates.get(s - net.n);
        return TRUTH[gate[0]][bit(gate[1], v) + 2 * (gate[2] == NONE ? 0 : bit(gate[2], v))];
    }

    private int outputs(int v) {
        int sum = 0;
        for (int i = net.outs.size() - 1; i >= 0; i--) {
            sum = 2 * sum + bit(net.outs.get(i), v);
        }
        return sum;
    }

    private int task(int v) {
        int a = v % (1 << net.p);
        int b = v / (1 << net.p) % (1 << net.q);
        int[] tells = {a + b, a * b, a * a + b, 3 * a - b};
        return tells[net.task];
    }

    private int runs(int v, int what) {
        bad(out(v, 0, inputLimit()) || out(what, 0, 2));
        needNet();
        return what == 0 ? outputs(v) : task(v);
    }

    private int signal(int s, int v) {
        bad(out(s, 0, net == null ? 18 : net.signals()) || out(v, 0, inputLimit()));
        needNet();
        return bit(s, v);
    }

    private List<Integer> wrongs() {
        List<Integer> found = new ArrayList<>();
        for (int v = 0; v < 1 << net.n; v++) {
            if (outputs(v) != task(v)) {
                found.add(v);
            }
        }
        return found;
    }

    private int wrong(int what) {
        bad(out(what, 0, 2));
        needNet();
        List<Integer> found = wrongs();
        return what == 1 ? found.size() : found.isEmpty() ? NONE : found.get(0);
    }

    private int cures(int g) {
        bad(out(g, 0, gateLimit()));
        needNet();
        int[] gate = net.gates.get(g);
        int was = gate[0];
        int bits = 0;
        for (int kind = was == 0 ? 0 : 1; kind < (was == 0 ? 1 : 8); kind++) {
            gate[0] = kind;
            bits += wrongs().isEmpty() ? 1 << kind : 0;
        }
        gate[0] = was;
        return bits;
    }

    // ---- stages

    private static void add(Map<Integer, Integer> sum, int set, int coefficient) {
        if (coefficient != 0) {
            sum.merge(set, coefficient, (x, y) -> x + y == 0 ? null : Integer.valueOf(x + y));
        }
    }

    private TreeMap<Integer, Integer> firstStage() {
        TreeMap<Integer, Integer> sum = new TreeMap<>(Comparator.reverseOrder());
        for (int i = 0; i < net.outs.size(); i++) {
            add(sum, 1 << net.outs.get(i), 1 << i);
        }
        for (int set = 0; set < 1 << net.n; set++) {
            for (int part = 0; part <= set; part++) {
                if ((part & ~set) == 0) {
                    int sign = Integer.bitCount(set ^ part) % 2 == 0 ? -1 : 1;
                    add(sum, set, sign * task(part));
                }
            }
        }
        return sum;
    }

    private TreeMap<Integer, Integer> nextStage(TreeMap<Integer, Integer> stage, int g) {
        int s = 1 << net.n + g;
        int[] gate = net.gates.get(g);
        int[] f = TRUTH[gate[0]];
        int x = 1 << gate[1];
        int y = gate[2] == NONE ? 0 : 1 << gate[2];
        TreeMap<Integer, Integer> sum = new TreeMap<>(Comparator.reverseOrder());
        stage.forEach((set, c) -> {
            int others = set & ~s;
            if (others == set) {
                add(sum, set, c);
            } else {
                add(sum, others, c * f[0]);
                add(sum, others | x, c * (f[1] - f[0]));
                add(sum, others | y, c * (f[2] - f[0]));
                add(sum, others | x | y, c * (f[3] - f[2] - f[1] + f[0]));
            }
        });
        return sum;
    }

    private TreeMap<Integer, Integer> stage(int k, boolean asTold) {
        bad(!asTold || out(k, 0, gateLimit() + 1));
        needNet();
        TreeMap<Integer, Integer> stage = firstStage();
        for (int i = 1; i <= k; i++) {
            full(stage);
            stage = nextStage(stage, net.gates.size() - i);
        }
        full(stage);
        return stage;
    }

    private static void full(Map<Integer, Integer> stage) {
        if (stage.size() > 40) {
            throw new Refused(FULL);
        }
    }

    private TreeMap<Integer, Integer> rest() {
        return stage(gateLimit(), true);
    }

    private int term(int k, int j, int what) {
        TreeMap<Integer, Integer> stage = stage(k, j >= 0 && !out(what, 0, 2));
        if (j >= stage.size()) {
            return NONE;
        }
        int set = new ArrayList<>(stage.keySet()).get(j);
        return what == 0 ? stage.get(set) : set;
    }

    private int most(int what) {
        TreeMap<Integer, Integer> rest = stage(gateLimit(), !out(what, 0, 3));
        int most = 0;
        switch (what) {
            case 0:
                for (int k = 0; k <= net.gates.size(); k++) {
                    most = Math.max(most, stage(k, true).size());
                }
                return most;
            case 1:
                return rest.keySet().stream().mapToInt(Integer::bitCount).max().orElse(0);
            default:
                return rest.values().stream().mapToInt(c -> c).sum();
        }
    }

    private int dearest(int k, int j) {
        TreeMap<Integer, Integer> stage = stage(k, j >= 0);
        List<Integer> sets = new ArrayList<>(stage.keySet());
        sets.sort(Comparator.comparing(set -> -Math.abs(stage.get(set))));
        return j < sets.size() ? sets.get(j) : NONE;
    }

    private int value(int k, int v) {
        stage(k, !out(v, 0, inputLimit()));
        return outputs(v) - task(v);
    }

    private int witness() {
        return rest().keySet().stream()
            .min(Comparator.comparing((Integer set) -> Integer.bitCount(set)).thenComparing(set -> set))
            .orElse(NONE);
    }

    // ---- counts

    private int count(int what) {
        bad(out(what, 0, 7));
        if (what < 3) {
            return refusals[what];
        }
        if (what == 3) {
            return text.length();
        }
        return net == null ? 0 : what == 4 ? net.n : what == 5 ? net.gates.size() : net.outs.size();
    }

    private long digest() {
        List<Integer> row = new ArrayList<>();
        for (int what = 0; what < 7; what++) {
            row.add(count(what));
        }
        if (net == null) {
            row.addAll(List.of(-1, -1, -1, -1));
        } else {
            net.gates.forEach(gate -> row.addAll(List.of(gate[0], gate[1], gate[2])));
            row.addAll(net.outs);
            row.addAll(List.of(net.task, net.p, net.q, wrongs().size()));
        }
        long h = 1993;
        for (int v : row) {
            h = 31 * h + v;
        }
        return h;
    }
}
