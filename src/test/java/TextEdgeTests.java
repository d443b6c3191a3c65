/**
 * "2 THE TEXT", sentence by sentence, and promises 2 to 4. In a text with a FAULT a ^ stands ahead of the byte that is
 * the FAULT (at the end: the TEXT's length); it is not typed.
 */
public final class TextEdgeTests {
    private static final int BAD = -2, FULL = -4;
    private static final String LEAST = "in 1;out 0;task sum 1 0;";
    private static final String ORDINARY = "in 2;g xor 0 1;g not 2;out 3 2;task sum 1 1;";
    private static final String SIX = "in6;g xor0 1;g but6 2;g nor7 3;out6 7 8 0 1;task sum3 3;";
    private static final String TWELVE = "in6;" + "g not0;".repeat(12);

    private final Due due = new Due();

    public static void main(String[] args) {
        new TextEdgeTests().all();
    }

    private void all() {
        aHundredAndTwentyBytes();
        bytesOfAnyNumber();
        clearEmpties();
        itemsAreEndedBySemicolons();
        inIsFirstAndOnce();
        inputsAreOneToSix();
        gatesAreTwelveAtMost();
        gatesHaveSignalsAhead();
        notHasXAlone();
        outputsAreOneToSeven();
        outIsOnceBehindGates();
        taskIsOnceAndLast();
        taskNumbers();
        gateKindsAreWords();
        taskKindsAreWords();
        numbersHaveOneOrTwoFigures();
        blanksBetween();
        blanksNeededOnly();
        onlyThirtyTwoIsBlank();
        theFirstFault();
        somethingIsMissing();
        twoAreMissing();
        somethingIsTooMuch();
        endsTooEarly();
        wordsCutOff();
        nothingBehind();
        faultsLeaveAll();
        readsBecomesWhatIsTold();
        due.end();
    }

    // ---- helpers

    private void taken(String text, int gates) {
        GateSums sums = new GateSums();
        Due.type(sums, text);
        due.is("bytes of \"" + text + "\"", sums.count(3), text.length());
        due.is("reads of \"" + text + "\"", sums.reads(), gates);
        due.is("GATES of \"" + text + "\"", sums.count(5), gates);
        due.is("THE TEXT stays, \"" + text + "\"", sums.count(3), text.length());
        due.are("nothing counts, \"" + text + "\"", Picture.refusals(sums), 0, 0, 0);
    }

    private void fault(String marked) {
        int place = marked.indexOf('^');
        faultAt(place, marked.substring(0, place) + marked.substring(place + 1));
    }

    /** Without a circuit, with one that was drawn (each with refusals counted before), with one that was read. */
    private void faultAt(int place, String text) {
        GateSums without = new GateSums();
        without.witness();
        without.adder(0);
        lookAtFault(without, place, text);
        GateSums drawn = Due.drawn(1418, 5, 12);
        drawn.terms(10);
        lookAtFault(drawn, place, text);
        lookAtFault(Due.circuit(SIX), place, text);
    }

    private void lookAtFault(GateSums sums, int place, String text) {
        Due.type(sums, text);
        due.is("bytes of \"" + text + "\"", sums.count(3), text.length());
        long[] before = Picture.of(sums);
        long[] counted = Picture.refusals(sums);
        due.is("reads of \"" + text + "\"", sums.reads(), -10 - place);
        due.are("nothing counts, \"" + text + "\"", Picture.refusals(sums), counted);
        due.are("all stays, \"" + text + "\"", Picture.of(sums), before);
        due.is("reads of \"" + text + "\" once more", sums.reads(), -10 - place);
    }

    // ---- type, clear

    private void aHundredAndTwentyBytes() {
        due.sentence("THE TEXT (120 bytes at most); FULL: 120");
        taken(" ".repeat(120 - LEAST.length()) + LEAST, 0);
        taken(LEAST + " ".repeat(120 - LEAST.length()), 0);
        String whole = "in 6;" + "g and 4 3;".repeat(8) + "out 13 12 11 10 9 8;task sum 01 00;";
        due.is("its bytes", whole.length(), 120);
        taken(whole, 8);
        faultAt(120, " ".repeat(120));
        faultAt(120, LEAST.substring(0, 23) + " ".repeat(97));
        faultAt(119, " ".repeat(119) + ";");
        GateSums sums = new GateSums();
        for (int i = 1; i <= 120; i++) {
            due.is("byte " + i, sums.type(i == 120 ? ';' : ' '), i);
        }
        due.is("byte 121", sums.type(' '), FULL);
        due.is("byte 121, no byte at all: BAD comes first", sums.type(128), BAD);
        due.is("bytes", sums.count(3), 120);
        due.are("counted", Picture.refusals(sums), 1, 0, 1);
        due.is("the 120th byte is as it was", sums.reads(), -10 - 119);
        due.is("clear", sums.clear(), 120);
        due.is("a byte behind clear", sums.type(' '), 1);
        due.are("counted, still", Picture.refusals(sums), 1, 0, 1);
    }

    private void bytesOfAnyNumber() {
        due.sentence("A byte (0 .. 127) comes behind THE TEXT: how many it has. BAD");
        GateSums sums = new GateSums();
        int typed = 0;
        for (int c : new int[] {0, 1, 31, 32, 126, 127}) {
            typed++;
            due.is("type(" + c + ")", sums.type(c), typed);
        }
        int refused = 0;
        for (int c : new int[] {-1, 128, 255, 256, 256 + ' ', Integer.MIN_VALUE, Integer.MAX_VALUE}) {
            refused++;
            due.is("type(" + c + ")", sums.type(c), BAD);
            due.is("BAD counted", sums.count(0), refused);
            due.is("bytes", sums.count(3), typed);
        }
        due.is("the next one", sums.type('x'), typed + 1);
    }

    private void clearEmpties() {
        due.sentence("THE TEXT is empty: how many it had");
        GateSums sums = new GateSums();
        due.is("of a new object", sums.clear(), 0);
        Due.type(sums, ORDINARY);
        due.is("gates", sums.reads(), 2);
        due.is("clear", sums.clear(), ORDINARY.length());
        due.is("clear once more", sums.clear(), 0);
        due.is("bytes", sums.count(3), 0);
        due.is("the circuit stays", sums.count(5), 2);
        due.is("reads of nothing", sums.reads(), -10);
        due.is("the circuit stays, still", sums.count(5), 2);
        Due.type(sums, LEAST);
        due.is("nothing of the former text is left", sums.reads(), 0);
        due.are("nothing counts", Picture.refusals(sums), 0, 0, 0);
    }

    // ---- items

    private void itemsAreEndedBySemicolons() {
        due.sentence("ITEMS, each ended by ;");
        taken(ORDINARY, 2);
        fault("in 2 ^g xor 0 1;out 2;task sum 1 1;");
        fault("in 2;g xor 0 1 ^g not 2;out 3;task sum 1 1;");
        fault("in 2;g not 1 ^out 2;task sum 1 1;");
        fault("in 2;out 1 ^task sum 1 1;");
        fault("in 2;out 1;task sum 1 1^");
        fault("^;in 2;out 1;task sum 1 1;");
        fault("in 2;^;out 1;task sum 1 1;");
        fault("in 2;out 1;^;task sum 1 1;");
        fault("in 2;out 1;task sum 1 1;^;");
        fault("in 2^:out 1;task sum 1 1;");
        fault("in 2^,out 1;task sum 1 1;");
    }

    private void inIsFirstAndOnce() {
        due.sentence("in n (first of all, once)");
        fault("^g not 0;in 1;out 0;task sum 1 0;");
        fault("^out 0;in 1;task sum 1 0;");
        fault("^task sum 1 0;in 1;out 0;");
        fault("^1;out 0;task sum 1 0;");
        fault("in 1;^in 1;out 0;task sum 1 0;");
        fault("in 1;g not 0;^in 1;out 0;task sum 1 0;");
        fault("in 1;out 0;^in 1;task sum 1 0;");
        fault("in 1;out 0;task sum 1 0;^in 1;");
    }

    private void inputsAreOneToSix() {
        due.sentence("INPUTS 0 .. n less 1 (n 1 .. 6)");
        for (int n = 1; n <= 6; n++) {
            String text = "in " + n + ";out " + (n - 1) + ";task sum 1 0;";
            taken(text, 0);
            due.is("count(4) of " + text, Due.circuit(text).count(4), n);
            fault("in " + n + ";out ^" + n + ";task sum 1 0;");
        }
        fault("in ^0;out 0;task sum 1 0;");
        fault("in ^7;out 0;task sum 1 0;");
        fault("in ^00;out 0;task sum 1 0;");
        fault("in ^07;out 0;task sum 1 0;");
        fault("in ^10;out 0;task sum 1 0;");
        fault("in ^99;out 0;task sum 1 0;");
        fault("in ^-1;out 0;task sum 1 0;");
    }

    private void gatesAreTwelveAtMost() {
        due.sentence("GATES, as they come (n and on), 12 at most; a 13th g");
        taken(LEAST, 0);
        taken("in6;" + "g not0;".repeat(11) + "out16;task sum1 0;", 11);
        taken(TWELVE + "out17;task sum1 0;", 12);
        fault(TWELVE + "out^18;task sum1 0;");
        fault(TWELVE + "^g not0;out0;task sum1 0;");
        fault(TWELVE + "^g");
        fault(TWELVE + "^g;");
        fault(TWELVE + "^gg not0;");
        GateSums sums = Due.circuit("in 2;g but 0 1;g not 2;g and 3 0;out 2 3 4;task sum 1 0;");
        for (int v = 0; v < 4; v++) {
            int but = v == 1 ? 1 : 0;
            due.is("the first GATE is SIGNAL n", sums.signal(2, v), but);
            due.is("the next one is n and 1", sums.signal(3, v), 1 - but);
            due.is("the last one", sums.signal(4, v), (1 - but) * (v & 1));
        }
    }

    private void gatesHaveSignalsAhead() {
        due.sentence("each GATE has one or two SIGNALS ahead of it (x, y; they may be alike)");
        taken("in 1;g not 0;g and 0 1;g or 2 2;out 0;task sum 1 0;", 3);
        fault("in 1;g not ^1;out 0;task sum 1 0;");
        fault("in 1;g and ^1 0;out 0;task sum 1 0;");
        fault("in 1;g and 0 ^1;out 0;task sum 1 0;");
        fault("in 1;g not 0;g or ^2 1;out 0;task sum 1 0;");
        fault("in 1;g not 0;g or 1 ^2;out 0;task sum 1 0;");
        fault("in 6;g xor ^6 0;out 0;task sum 1 0;");
        taken("in 6;g xor 5 0;out 0;task sum 1 0;", 1);
        taken("in6;" + "g not0;".repeat(11) + "g or16 16;out0;task sum1 0;", 12);
        fault("in6;" + "g not0;".repeat(11) + "g or^17 16;out0;task sum1 0;");
        fault("in6;" + "g not0;".repeat(11) + "g or16 ^17;out0;task sum1 0;");
        fault("in 1;g not ^-1;out 0;task sum 1 0;");
    }

    private void notHasXAlone() {
        due.sentence("g KIND x or g KIND x y (a GATE; NOT has x alone)");
        taken("in 1;g not 0;out 0;task sum 1 0;", 1);
        fault("in 1;g not^;out 0;task sum 1 0;");
        fault("in 1;g not 0 ^0;out 0;task sum 1 0;");
        for (String word : new String[] {"and", "or", "xor", "nand", "nor", "xnor", "but"}) {
            taken("in 1;g " + word + " 0 0;out 0;task sum 1 0;", 1);
            fault("in 1;g " + word + "^;out 0;task sum 1 0;");
            fault("in 1;g " + word + " 0^;out 0;task sum 1 0;");
            fault("in 1;g " + word + " 0 0 ^0;out 0;task sum 1 0;");
        }
    }

    private void outputsAreOneToSeven() {
        due.sentence("out and 1 to 7 SIGNALS; OUTPUTS: a row of 1 to 7 SIGNALS (may be alike)");
        StringBuilder row = new StringBuilder();
        for (int outputs = 1; outputs <= 7; outputs++) {
            row.append(" 0");
            String text = "in 1;out" + row + ";task sum 1 0;";
            taken(text, 0);
            due.is("OUTPUTS of " + text, Due.circuit(text).count(6), outputs);
        }
        fault("in 1;out^;task sum 1 0;");
        fault("in 1;out" + row + " ^0;task sum 1 0;");
        fault("in 1;out" + row + " ^1;task sum 1 0;");
        fault("in 1;out 0 0 ^1;task sum 1 0;");
        fault("in 1;out 0 ^x;task sum 1 0;");
        fault("in 1;out 0^, 0;task sum 1 0;");
    }

    private void outIsOnceBehindGates() {
        due.sentence("out (once, behind all GATES)");
        fault("in 1;out 0;^out 0;task sum 1 0;");
        fault("in 1;out 0;^g not 0;task sum 1 0;");
        fault("in 1;g not 0;^task sum 1 0;");
        fault("in 1;^task sum 1 0;");
    }

    private void taskIsOnceAndLast() {
        due.sentence("task KIND p q (once, last of all)");
        fault("in 1;out 0;task sum 1 0;^task sum 1 0;");
        fault("in 1;out 0;task sum 1 0;^g not 0;");
        fault("in 1;out 0;task sum 1 0;^out 0;");
        fault("in 1;^task sum 1 0;out 0;");
    }

    private void taskNumbers() {
        due.sentence("p 1 .. n, q 0 .. n, p and q together n at most");
        for (int n = 1; n <= 6; n++) {
            String head = "in " + n + ";out 0;task sum ";
            for (int p = 1; p <= n; p++) {
                String text = head + p + " " + (n - p) + ";";
                taken(text, 0);
                taken(head + p + " 0;", 0);
                due.is("p of " + text, Due.circuit(text).told(2, 0), p);
                due.is("q of " + text, Due.circuit(text).told(3, 0), n - p);
                fault(head + p + " ^" + (n - p + 1) + ";");
            }
            fault(head + "^0 0;");
            fault(head + "^0 " + n + ";");
            fault(head + "^" + (n + 1) + " 0;");
            fault(head + "1 ^" + n + ";");
            fault(head + "1 ^99;");
        }
    }

    // ---- words, numbers, blanks

    private void gateKindsAreWords() {
        due.sentence("KINDS of GATES are words: not and or xor nand nor xnor but");
        String[] words = {"not", "and", "or", "xor", "nand", "nor", "xnor", "but"};
        for (int kind = 0; kind < words.length; kind++) {
            String text = "in 1;g " + words[kind] + (kind == 0 ? " 0" : " 0 0") + ";out 0;task sum 1 0;";
            due.is("KIND of " + words[kind], Due.circuit(text).of(0, 0), kind);
            fault("in 1;g ^" + words[kind].substring(1) + "x 0 0;");
            fault("in 1;g ^" + words[kind] + "x 0 0;");
            fault("in 1;g ^" + words[kind].substring(0, words[kind].length() - 1) + " 0 0;");
            fault("in 1;g ^" + words[kind].toUpperCase() + " 0 0;");
        }
        for (String other : new String[] {"sum", "g", "in", "out", "task", "1", ";", "yes", "nxor", "buts", "nota"}) {
            fault("in 1;g ^" + other + " 0 0;");
        }
    }

    private void taskKindsAreWords() {
        due.sentence("KINDS of TASKS: sum product square triple");
        String[] words = {"sum", "product", "square", "triple"};
        for (int kind = 0; kind < words.length; kind++) {
            due.is("KIND of " + words[kind], Due.circuit("in 1;out 0;task " + words[kind] + " 1 0;").told(1, 0), kind);
            fault("in 1;out 0;task ^" + words[kind].substring(1) + " 1 0;");
            fault("in 1;out 0;task ^" + words[kind] + "s 1 0;");
            fault("in 1;out 0;task ^" + words[kind].substring(0, words[kind].length() - 1) + " 1 0;");
            fault("in 1;out 0;task ^" + words[kind].toUpperCase() + " 1 0;");
        }
        for (String other : new String[] {"and", "not", "task", "g", "0", ";", "sumproduct"}) {
            fault("in 1;out 0;task ^" + other + " 1 0;");
        }
    }

    private void numbersHaveOneOrTwoFigures() {
        due.sentence("Numbers have 1 or 2 figures; a number of three figures or more: its first byte");
        taken("in 01;g and 00 00;out 01 00;task sum 01 00;", 1);
        due.is("01 is 1", Due.circuit("in 02;out 01;task sum 01 01;").told(0, 0), 1);
        due.is("10 is ten", Due.circuit("in6;" + "g not0;".repeat(5) + "out10;task sum1 0;").told(0, 0), 10);
        String[] far = {"000", "001", "0001", "100", "0000000000", "4294967297", "99999999999999999999"};
        for (String number : far) {
            fault("in ^" + number + ";out 0;task sum 1 0;");
            fault("in 2;g not ^" + number + ";out 0;task sum 1 0;");
            fault("in 2;g and ^" + number + " 0;out 0;task sum 1 0;");
            fault("in 2;g and 0 ^" + number + ";out 0;task sum 1 0;");
            fault("in 2;out ^" + number + ";task sum 1 0;");
            fault("in 2;out 0 ^" + number + ";task sum 1 0;");
            fault("in 2;out 0;task sum ^" + number + " 0;");
            fault("in 2;out 0;task sum 1 ^" + number + ";");
        }
    }

    private void blanksBetween() {
        due.sentence("blanks (32) between");
        taken("  in   2  ;   g   xor   0   1  ;  out   2   1  ;  task   sum   1   1  ;  ", 1);
        taken("in 2 ; g not 1 ; out 2 ; task sum 1 1 ; ", 1);
        fault("^i n 2;out 0;task sum 1 1;");
        fault("in 2;^o ut 0;task sum 1 1;");
        fault("in 2;out 0;^t ask sum 1 1;");
        fault("in 2;g ^x or 0 1;out 0;task sum 1 1;");
        fault("in 1 ^2;out 0;task sum 1 1;");
    }

    private void blanksNeededOnly() {
        due.sentence("blanks: needed only between letters, between figures");
        taken("in2;g xor0 1;g not2;out3 2;task sum1 1;", 2);
        fault("in2;^gxor0 1;out0;task sum1 1;");
        fault("in2;^gnot0;out0;task sum1 1;");
        fault("in2;out0;^tasksum1 1;");
        fault("in2;g xor01^;out0;task sum1 1;");
        fault("in2;g xor^10;out0;task sum1 1;");
        fault("in2;out0;task sum^11;");
        fault("in2;out0;task sum01^;");
        due.is("00 is one number", Due.circuit("in2;out00;task sum1 1;").count(6), 1);
        due.is("0 0 are two", Due.circuit("in2;out0 0;task sum1 1;").count(6), 2);
        due.is("00 00 are two", Due.circuit("in2;out00 00;task sum1 1;").count(6), 2);
    }

    private void onlyThirtyTwoIsBlank() {
        due.sentence("blanks (32): no other byte");
        for (int c = 0; c < 128; c++) {
            boolean letter = Character.isLetter(c);
            if (c != ' ') {
                faultAt(letter ? 0 : 2, "in" + (char) c + "9;out 0;task sum 1 0;");
                faultAt(0, (char) c + LEAST);
                faultAt(LEAST.length(), LEAST + (char) c);
            }
        }
    }

    // ---- FAULTS

    private void theFirstFault() {
        due.sentence("FAULT: the place of the first byte of the first word, number, sign that can not stand there");
        fault("in ^7;g xyz 9;out;task");
        fault("in 1;g ^xyz 9;out;task");
        fault("in 1;g not ^9;out;task");
        fault("in 1;g not 0;out^;task");
        fault("   in   ^word   ;");
        fault("   in   ^777   ;");
        fault("   in   ^+   1;");
        fault("   ^word");
        fault("in 1^(2);");
        fault("in 1^in;");
        fault("in 1 ^2;");
    }

    private void somethingIsMissing() {
        due.sentence("FAULT: what stands where something is missing");
        fault("^2;g xor 0 1;out 2;task sum 1 1;");
        fault("in ^;g xor 0 1;out 2;task sum 1 1;");
        fault("in 2 ^g xor 0 1;out 2;task sum 1 1;");
        fault("in 2;^xor 0 1;out 2;task sum 1 1;");
        fault("in 2;g ^0 1;out 2;task sum 1 1;");
        fault("in 2;g xor ^;out 2;task sum 1 1;");
        fault("in 2;g xor 0 ^;out 2;task sum 1 1;");
        fault("in 2;g xor 0 1 ^out 2;task sum 1 1;");
        fault("in 2;g xor 0 1;^2;task sum 1 1;");
        fault("in 2;g xor 0 1;out ^;task sum 1 1;");
        fault("in 2;g xor 0 1;out 2 ^task sum 1 1;");
        fault("in 2;g xor 0 1;out 2;^sum 1 1;");
        fault("in 2;g xor 0 1;out 2;task ^1 1;");
        fault("in 2;g xor 0 1;out 2;task sum ^;");
        fault("in 2;g xor 0 1;out 2;task sum 1 ^;");
        fault("in 2;g xor 0 1;out 2;task sum 1 1 ^x;");
    }

    private void twoAreMissing() {
        due.sentence("FAULT: what stands where something is missing, though it might stand there, were more missing");
        fault("in ^g not 0;out 0;task sum 1 0;");
        fault("in ^out 0;task sum 1 0;");
        fault("in ^task sum 1 0;");
        fault("in 2;g ^out 0;task sum 1 0;");
        fault("in 2;g ^g not 0;out 0;task sum 1 0;");
        fault("in 2;g ^;out 0;task sum 1 0;");
        fault("in 2;g not ^out 0;task sum 1 0;");
        fault("in 2;g not ^g not 0;out 0;task sum 1 0;");
        fault("in 2;g and 0 ^out 0;task sum 1 0;");
        fault("in 2;g and 0 ^g not 0;out 0;task sum 1 0;");
        fault("in 2;out ^task sum 1 0;");
        fault("in 2;out 0 ^sum 1 0;");
        fault("in 2;out 0;task^");
        fault("in 2;out 0;task ^;");
        fault("in 2;out 0;task sum ^;");
        fault("^;");
        fault("^;;;;");
        fault("in 2;^;;;");
    }

    private void somethingIsTooMuch() {
        due.sentence("FAULT: what can not stand there");
        fault("in ^in 2;g xor 0 1;out 2;task sum 1 1;");
        fault("in 2 ^2;g xor 0 1;out 2;task sum 1 1;");
        fault("in 2;^;g xor 0 1;out 2;task sum 1 1;");
        fault("in 2;g ^g xor 0 1;out 2;task sum 1 1;");
        fault("in 2;g xor ^xor 0 1;out 2;task sum 1 1;");
        fault("in 2;g xor 0 1 ^1;out 2;task sum 1 1;");
        fault("in 2;g xor 0 1;out ^out 2;task sum 1 1;");
        fault("in 2;g xor 0 1;out 2;^;task sum 1 1;");
        fault("in 2;g xor 0 1;out 2;task ^task sum 1 1;");
        fault("in 2;g xor 0 1;out 2;task sum ^sum 1 1;");
        fault("in 2;g xor 0 1;out 2;task sum 1 1 ^1;");
    }

    private void endsTooEarly() {
        due.sentence("the TEXT's length, if it ends too early (before the ; of task, an empty one, too)");
        String[] parts = {
            "in", "2", ";", "g", "xor", "0", "1", ";", "g", "not", "2", ";",
            "out", "3", "2", ";", "task", "sum", "1", "1",
        };
        String text = "";
        fault("^");
        fault(" ^");
        for (String part : parts) {
            text += part;
            fault(text + "^");
            text += " ";
            fault(text + "^");
            fault(text + "  ^");
        }
        taken(text + ";", 2);
        GateSums sums = Due.adding(1);
        Due.type(sums, text);
        due.is("too early", sums.reads(), -10 - text.length());
        sums.type(';');
        due.is("what was missing comes behind", sums.reads(), 2);
    }

    private void wordsCutOff() {
        due.sentence("a word that the TEXT's end cuts off can not stand there");
        fault("^i");
        fault("in 1;^ou");
        fault("in 1;^o");
        fault("in 1;g ^xno");
        fault("in 1;out 0;^tas");
        fault("in 1;out 0;task ^su");
    }

    private void nothingBehind() {
        due.sentence("Behind that nothing may stand but blanks");
        taken(LEAST + " ", 0);
        taken(LEAST + "      ", 0);
        fault(LEAST + "^;");
        fault(LEAST + "   ^0");
        fault(LEAST + "   ^x   ");
        fault(LEAST + "   ^. ");
        fault(LEAST + "^" + LEAST);
    }

    private void faultsLeaveAll() {
        due.sentence("By a FAULT all stays, nothing counts");
        GateSums sums = Due.adding(3);
        long digest = sums.digest();
        Due.type(sums, "in 1;g not 0;g and 1 1;out 2;task product 1 1;");
        long[] before = Picture.of(sums);
        due.is("FAULT at the last number", sums.reads(), -10 - 44);
        due.are("all stays", Picture.of(sums), before);
        due.is("clear", sums.clear(), 46);
        due.is("digest", sums.digest(), digest);
        due.is("it adds, still", sums.right(), 1);
        GateSums none = new GateSums();
        Due.type(none, "in 1;g not 0;out 1;task sum 1 0");
        due.is("FAULT at the end", none.reads(), -10 - 31);
        due.are("no circuit, still", Picture.of(none), 31, 0, 0, 0);
        due.is("no circuit, still: right", none.right(), -3);
    }

    private void readsBecomesWhatIsTold() {
        due.sentence("The circuit becomes what THE TEXT tells: how many GATES");
        GateSums sums = Due.adding(3);
        Due.type(sums, LEAST);
        due.is("reads", sums.reads(), 0);
        due.are("nothing of the former one is left", Picture.of(sums), LEAST.length(), 1, 0, 1, 0, 0, 1, 0, -1, 0, 0);
        due.is("OUTPUT 1 is no more", sums.told(0, 1), BAD);
        due.is("GATE 0 is no more", sums.of(0, 0), BAD);
        due.is("STAGE 1 is no more", sums.terms(1), BAD);
        due.is("v 2 is no more", sums.runs(2, 0), BAD);
        sums.adder(2);
        due.is("reads, the same text", sums.reads(), 0);
        due.is("INPUTS", sums.count(4), 1);
    }
}
