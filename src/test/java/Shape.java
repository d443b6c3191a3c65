/** An object as a test knows it by hand: what was typed, what was read or drawn, how many there are of each. */
final class Shape {
    private static final int NOWHERE = 99;

    private final String text;
    private final int[] drawn;
    /** What reads answers once more. */
    final int readAgain;
    final int inputs;
    /** By GATE; null: there is no circuit. */
    final int[] kinds;
    final int outputs;
    /** The first STAGE of more than 40 TERMS. */
    final int firstFull;

    private Shape(String text, int readAgain, int[] drawn, int inputs, int[] kinds, int outputs, int firstFull) {
        this.text = text;
        this.readAgain = readAgain;
        this.drawn = drawn;
        this.inputs = inputs;
        this.kinds = kinds;
        this.outputs = outputs;
        this.firstFull = firstFull;
    }

    static Shape empty(String text, int readAgain) {
        return new Shape(text, readAgain, null, 6, null, 7, NOWHERE);
    }

    static Shape told(String text, int inputs, int outputs, int... kinds) {
        return new Shape(text, kinds.length, null, inputs, kinds, outputs, NOWHERE);
    }

    static Shape drawn(int seed, int inputs, int... kinds) {
        return new Shape("in 1;", -15, new int[] {seed, inputs, kinds.length}, inputs, kinds, 2, NOWHERE);
    }

    Shape fullFrom(int stage) {
        return new Shape(text, readAgain, drawn, inputs, kinds, outputs, stage);
    }

    /** The same, with blanks behind the text until it has 120 bytes. */
    Shape filled() {
        String whole = text + " ".repeat(120 - text.length());
        return new Shape(whole, readAgain, drawn, inputs, kinds, outputs, firstFull);
    }

    GateSums make() {
        GateSums sums = new GateSums();
        Due.type(sums, text);
        if (drawn != null) {
            sums.draw(drawn[0], drawn[1], drawn[2]);
        } else if (kinds != null) {
            sums.reads();
        }
        return sums;
    }

    boolean isThere() {
        return kinds != null;
    }

    boolean isFilled() {
        return text.length() == 120;
    }

    int gates() {
        return kinds == null ? 12 : kinds.length;
    }

    boolean isNot(int g) {
        return kinds != null && g >= 0 && g < kinds.length && kinds[g] == 0;
    }

    boolean hasGate(int g) {
        return kinds != null && g >= 0 && g < kinds.length;
    }

    @Override
    public String toString() {
        return drawn == null ? "\"" + text + "\"" : "draw(" + drawn[0] + ", " + drawn[1] + ", " + drawn[2] + ")";
    }
}
