/** Counts answers and prints those that are not the ones that are due. */
final class Due {
    private int checks;
    private int wrong;

    void is(String call, long got, long want) {
        checks++;
        if (got != want) {
            wrong++;
            System.out.println(call + " answered " + got + ", due is " + want);
        }
    }

    /** Types a text behind what is there. */
    static void type(GateSums sums, String text) {
        for (int i = 0; i < text.length(); i++) {
            sums.type(text.charAt(i));
        }
    }

    /** A new object with the circuit that a text tells, its text empty again. */
    static GateSums circuit(String text) {
        GateSums sums = new GateSums();
        type(sums, text);
        int gates = sums.reads();
        if (gates < 0) {
            throw new IllegalStateException(text + " has a fault: " + gates);
        }
        sums.clear();
        return sums;
    }

    void end() {
        System.out.println(checks + " answers looked at, " + wrong + " of them not as due");
        if (wrong != 0) {
            System.exit(1);
        }
    }
}
