/** Counts the answers of one test, prints those that are not due, and ends it with its exit code. */
final class Check {
    private static final int MOST_ROWS = 25;

    private int asked = 0;
    private int wrong = 0;
    private String sentence = "";

    /** The document's sentence that the answers from here on are held against. */
    void sentence(String words) {
        sentence = "\"" + words + "\": ";
    }

    void due(String call, long got, long want) {
        asked++;
        if (got != want) {
            wrong++;
            System.out.println(sentence + call + " answered " + got + ", due is " + want);
        }
    }

    void due(String call, boolean got, boolean want) {
        due(call, got ? 1 : 0, want ? 1 : 0);
    }

    /** Rows 0, 1, 2 .. of ring, order or lost, with NONE on both sides; the longest, a ring, has 25. */
    void rows(String call, java.util.function.IntUnaryOperator rows, int... want) {
        due(call + "(-1)", rows.applyAsInt(-1), KinNumbers.NONE);
        due(call + "(least)", rows.applyAsInt(Integer.MIN_VALUE), KinNumbers.NONE);
        due(call + "(most)", rows.applyAsInt(Integer.MAX_VALUE), KinNumbers.NONE);
        for (int k = 0; k < want.length; k++) {
            due(call + "(" + k + ")", rows.applyAsInt(k), want[k]);
        }
        for (int k = want.length; k < MOST_ROWS + 2; k++) {
            due(call + "(" + k + ")", rows.applyAsInt(k), KinNumbers.NONE);
        }
    }

    /** Both parts of a fraction, and NONE for other parts. */
    void fraction(String call, java.util.function.IntToLongFunction parts, long above, long below) {
        due(call + " above", parts.applyAsLong(0), above);
        due(call + " below", parts.applyAsLong(1), below);
        for (int part : new int[] {-1, 2, 3, Integer.MIN_VALUE, Integer.MAX_VALUE}) {
            due(call + " part " + part, parts.applyAsLong(part), KinNumbers.NONE);
        }
    }

    /** NONE for both parts. */
    void noFraction(String call, java.util.function.IntToLongFunction parts) {
        fraction(call, parts, KinNumbers.NONE, KinNumbers.NONE);
    }

    void end() {
        System.out.println(asked + " answers asked, " + wrong + " not as due");
        if (wrong != 0 || asked == 0) {
            System.exit(1);
        }
    }
}
