/**
 * What the tests of the document's edges share. An edge is one sentence of the document that names a boundary
 * case, under the number of the promise that it bears on; each is told by name when it does not hold.
 */
abstract class Edges {
    protected static final int NONE = -1, BAD = -2, NO_MORE = -3, FULL = -4, STATE = -5, BARRED = -6;
    protected static final int FAULT_1 = -11, FAULT_2 = -12, FAULT_3 = -13;
    protected static final int OUT = Calls.OUT, LATE = Calls.LATE, KEPT = Calls.KEPT;
    protected static final int LOW = Integer.MIN_VALUE, HIGH = Integer.MAX_VALUE;

    private static String edge = "";
    private static int edges = 0;
    private static int checked = 0;
    private static int wrong = 0;

    protected static void edge(int promise, String sentence, Runnable test) {
        edge = "promise " + promise + ", \"" + sentence + "\"";
        edges++;
        try {
            test.run();
        } catch (RuntimeException e) {
            wrong++;
            System.out.println(edge + ": threw " + e);
        }
    }

    protected static void due(String call, long got, long want) {
        checked++;
        if (got != want) {
            wrong++;
            System.out.println(edge + ": " + call + " answered " + got + ", due is " + want);
        }
    }

    protected static void end() {
        System.out.println(edges + " edges, " + checked + " answers looked at, " + wrong + " not as due");
        if (wrong != 0) {
            System.exit(1);
        }
    }
}
