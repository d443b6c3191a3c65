/** Counts answers and prints those that are not the ones that are due. */
final class Due {
    private int checks;
    private int wrong;
    private String sentence = "";

    /** The document's words that the answers from here on stand for. */
    void sentence(String words) {
        sentence = words;
    }

    void is(String call, long got, long want) {
        checks++;
        if (got != want) {
            wrong++;
            String head = sentence.isEmpty() ? "" : "[" + sentence + "] ";
            System.out.println(head + call + " answered " + got + ", due is " + want);
        }
    }

    void are(String call, long[] got, long... want) {
        is(call + ", how many", got.length, want.length);
        for (int i = 0; i < got.length && i < want.length; i++) {
            is(call + ", place " + i, got[i], want[i]);
        }
    }

    /** Types a text behind what is there. */
    static void type(GateSums sums, String text) {
        for (int i = 0; i < text.length(); i++) {
            sums.type(text.charAt(i));
        }
    }

    /** A new object with the circuit that a text tells, its text empty again. */
    static GateSums circuit(String text) {
        GateSums sums = new GateSums();
        type(sums, text);
        int gates = sums.reads();
        if (gates < 0) {
            throw new IllegalStateException(text + " has a fault: " + gates);
        }
        sums.clear();
        return sums;
    }

    static GateSums drawn(int seed, int n, int g) {
        GateSums sums = new GateSums();
        sums.draw(seed, n, g);
        return sums;
    }

    static GateSums adding(int b) {
        GateSums sums = new GateSums();
        sums.adder(b);
        return sums;
    }

    void end() {
        System.out.println(checks + " answers looked at, " + wrong + " of them not as due");
        if (wrong != 0) {
            System.exit(1);
        }
    }
}
