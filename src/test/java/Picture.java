import java.util.ArrayList;
import java.util.List;

/** What can be seen of an object from outside; some eighty calls at most, so that three fit into an object's 512. */
final class Picture {
    private Picture() {
    }

    /** BAD, NO, FULL. */
    static long[] refusals(GateSums sums) {
        return new long[] {sums.count(0), sums.count(1), sums.count(2)};
    }

    /** All but how often was refused; STAGES that are FULL are refused here, too. */
    static long[] of(GateSums sums) {
        List<Long> row = new ArrayList<>();
        for (int what = 3; what <= 6; what++) {
            row.add((long) sums.count(what));
        }
        if (sums.count(4) > 0) {
            addCircuit(sums, row);
        }
        return row.stream().mapToLong(x -> x).toArray();
    }

    private static void addCircuit(GateSums sums, List<Long> row) {
        int gates = sums.count(5);
        for (int g = 0; g < gates; g++) {
            for (int what = 0; what <= 3; what++) {
                row.add((long) sums.of(g, what));
            }
        }
        for (int i = 0; i < sums.count(6); i++) {
            row.add((long) sums.told(0, i));
        }
        for (int what = 1; what <= 3; what++) {
            row.add((long) sums.told(what, 0));
        }
        row.add((long) sums.wrong(0));
        row.add((long) sums.wrong(1));
        for (int k = 0; k <= gates; k++) {
            row.add((long) sums.terms(k));
        }
    }
}
