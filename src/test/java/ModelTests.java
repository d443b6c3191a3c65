import java.lang.reflect.InvocationTargetException;
import java.lang.reflect.Method;
import java.util.ArrayList;
import java.util.Arrays;
import java.util.HashMap;
import java.util.List;
import java.util.Map;
import java.util.Random;

/** Long runs of calls, each answer compared with the model's; all promises, the text's faults above all. */
public final class ModelTests {
    /** A text's 122 calls behind the last one leave it below an object's 512. */
    private static final int RUNS = 700, CALLS = 380;
    private static final String[] GATE_WORDS = {"not", "and", "or", "xor", "nand", "nor", "xnor", "but"};
    private static final String[] TASK_WORDS = {"sum", "product", "square", "triple"};
    private static final String[] PIECES = {
        ";", " ", "g", "in", "out", "task", "and", "not", "sum", "0", "1", "7", "18", "100", "-", "In", "\t", "nan",
    };
    private static final String[] PARTED = {
        "in 2 ; g xor 0 1 ; g not 2 ; out 3 2 ; task sum 1 1 ;", "in 1 ; out 0 ; task triple 1 0 ;",
        "in 6 ; g not 0 ; g and 6 5 ; out 0 1 2 3 4 5 7 ; task square 3 3 ;",
    };
    private static final String[] QUERIES = {
        "kind", "wire", "of", "told", "runs", "signal", "wrong", "cures", "right", "terms", "term", "most",
        "dearest", "value", "stands", "witness", "count", "digest",
    };

    private final Due due = new Due();
    private final Map<String, Method> methods = new HashMap<>();
    private final Map<Long, Integer> readAnswers = new HashMap<>();
    private Random random;
    private GateSums sums;
    private Model model;
    private StringBuilder story;
    private int calls;

    public static void main(String[] args) throws ReflectiveOperationException {
        new ModelTests().all();
    }

    private void all() throws ReflectiveOperationException {
        for (Method method : GateSums.class.getDeclaredMethods()) {
            methods.put(method.getName(), method);
        }
        for (int run = 0; run < RUNS; run++) {
            random = new Random(run);
            sums = new GateSums();
            model = new Model();
            story = new StringBuilder();
            calls = 0;
            while (calls < CALLS) {
                step();
            }
        }
        textsWithPartsGoneOrChanged();
        due.is("kinds of answers of reads seen, at least 90", Math.min(90, readAnswers.size()), 90);
        due.end();
    }

    private void step() throws ReflectiveOperationException {
        int dice = random.nextInt(40);
        if (dice < 2) {
            typeAll(random.nextBoolean() ? circuitText() : spoilt(circuitText()));
        } else if (dice == 2) {
            both("draw", near(0, 999999), near(1, 6), near(1, 12));
        } else if (dice == 3) {
            both("adder", near(1, 3));
        } else if (dice == 4) {
            both("type", random.nextBoolean() ? 128 : -1);
        } else {
            query(QUERIES[random.nextInt(QUERIES.length)]);
        }
    }

    private void query(String name) throws ReflectiveOperationException {
        int inputs = model.net == null ? 6 : model.net.n;
        int gates = model.net == null ? 12 : model.net.gates.size();
        int g = near(0, gates - 1);
        int k = near(0, gates);
        int v = near(0, (1 << inputs) - 1);
        switch (name) {
            case "kind": both(name, g, near(0, 7)); break;
            case "wire": both(name, g, near(0, 1), near(0, random.nextBoolean() ? inputs + g - 1 : 17)); break;
            case "of": both(name, g, near(0, 3)); break;
            case "told": both(name, near(0, 3), random.nextBoolean() ? 0 : near(0, 6)); break;
            case "runs": both(name, v, near(0, 1)); break;
            case "signal": both(name, near(0, inputs + gates - 1), v); break;
            case "wrong": both(name, near(0, 1)); break;
            case "cures": both(name, g); break;
            case "terms": case "stands": both(name, k); break;
            case "term": both(name, k, near(0, 9), near(0, 1)); break;
            case "most": both(name, near(0, 2)); break;
            case "dearest": both(name, k, near(0, 9)); break;
            case "value": both(name, k, v); break;
            case "count": both(name, near(0, 6)); break;
            default: both(name); break;
        }
    }

    /** Mostly a number of the range, at times one beside it. */
    private int near(int least, int most) {
        int dice = random.nextInt(60);
        if (dice == 0) {
            return least - 1;
        }
        if (dice == 1) {
            return most + 1;
        }
        if (dice == 2) {
            return random.nextInt();
        }
        return most < least ? least : least + random.nextInt(most - least + 1);
    }

    private String circuitText() {
        int n = 1 + random.nextInt(6);
        int gates = random.nextInt(4) == 0 ? 10 + random.nextInt(4) : random.nextInt(8);
        String blank = gates >= 10 || random.nextBoolean() ? "" : " ";
        StringBuilder text = new StringBuilder("in" + blank + n + ";");
        for (int g = 0; g < gates; g++) {
            int kind = gates >= 10 ? (random.nextInt(3) == 0 ? 2 : 0) : random.nextInt(8);
            text.append("g ").append(GATE_WORDS[kind]).append(blank).append(random.nextInt(n + g));
            text.append(kind == 0 ? "" : " " + random.nextInt(n + g)).append(";").append(blank);
        }
        text.append("out").append(blank);
        for (int i = 1 + random.nextInt(gates >= 10 ? 1 : 7); i > 0; i--) {
            text.append(random.nextInt(n + gates)).append(i > 1 ? " " : "");
        }
        int p = 1 + random.nextInt(n);
        int q = random.nextInt(n - p + 1);
        text.append(";task ").append(TASK_WORDS[random.nextInt(4)]).append(blank).append(p).append(" ").append(q);
        return text.append(";").toString();
    }

    private String spoilt(String text) {
        StringBuilder changed = new StringBuilder(text);
        for (int times = 1 + random.nextInt(2); times > 0; times--) {
            int place = random.nextInt(changed.length() + 1);
            int dice = random.nextInt(4);
            if (dice == 0) {
                changed.setLength(place);
            } else if (dice == 1) {
                changed.delete(place, Math.min(changed.length(), place + 1 + random.nextInt(3)));
            } else {
                changed.insert(place, PIECES[random.nextInt(PIECES.length)]);
            }
        }
        return changed.toString();
    }

    /** Each row of parts taken out, each part put in place of each; by objects that have read another text ahead. */
    private void textsWithPartsGoneOrChanged() throws ReflectiveOperationException {
        for (String text : PARTED) {
            List<String> parts = List.of(text.split(" "));
            for (int from = 0; from <= parts.size(); from++) {
                for (int to = from; to <= parts.size(); to++) {
                    readOnce(parts, from, to, "");
                }
                for (String piece : PIECES) {
                    readOnce(parts, from, from, piece);
                    readOnce(parts, from, Math.min(from + 1, parts.size()), piece);
                }
            }
        }
    }

    private void readOnce(List<String> parts, int from, int to, String piece) throws ReflectiveOperationException {
        sums = new GateSums();
        model = new Model();
        story = new StringBuilder();
        typeAll("in6;g xor0 1;g but6 2;g nor7 3;out6 7 8 0 1;task sum3 3;");
        List<String> changed = new ArrayList<>(parts.subList(0, from));
        changed.add(piece);
        changed.addAll(parts.subList(to, parts.size()));
        typeAll(String.join(" ", changed));
        both("digest");
    }

    private void typeAll(String text) throws ReflectiveOperationException {
        both("clear");
        for (int i = 0; i < text.length(); i++) {
            both("type", text.charAt(i));
        }
        long answer = both("reads");
        readAnswers.merge(answer, 1, Integer::sum);
    }

    private long both(String name, int... args) throws ReflectiveOperationException {
        calls++;
        Object[] boxed = Arrays.stream(args).boxed().toArray();
        long got;
        try {
            got = ((Number) methods.get(name).invoke(sums, boxed)).longValue();
        } catch (InvocationTargetException thrown) {
            throw new IllegalStateException(name + Arrays.toString(args) + " threw", thrown.getCause());
        }
        long want = model.call(name, args);
        if (name.equals("type") && want >= 0) {
            story.append((char) args[0]);
        } else {
            story.append("\n").append(name).append(Arrays.toString(args)).append(" ");
        }
        due.is(got == want ? name : story.substring(Math.max(0, story.length() - 400)), got, want);
        return want;
    }
}
