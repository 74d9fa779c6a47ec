/**
 * The edges of "Sizes" in the document's description, and of promises 1, 2, 12 and 13. Each method
 * is for one sentence, which its title repeats.
 */
public final class SizesEdgesTest {
    private static final String REFUSED = " = throws IllegalArgumentException;";
    private static final String NO_SUCH = " = throws IndexOutOfBoundsException;";
    /** Sixteen in flight, a loop entry, meetings, misses and a full history. */
    private static final String BUSY = "train(7, true); train(7, true); train(7, false); train(23, true);"
            + "train(7, false); predict(1); predict(2); flush(2); train(7, true); train(7, true); train(7, true);"
            + "train(7, true); history() = 15;" + "predict(7) = true;".repeat(16) + "resolve(1, true) = -1;";

    public static void main(String[] args) {
        aNewObjectIsAsAfterSetSizes();
        fourAtFirst();
        pIs2To8();
        gIs2To8();
        hIs0ToG();
        severalAreWrong();
        plainAndChoiceHaveTwoToThePCounters();
        theGlobalTableHasTwoToTheGCounters();
        thereAreThreeTables();
        countersAre1AtFirst();
        historyIsUpToTwoToTheHLessOne();
        historyIs0AtFirst();
        toAppendIsModuloTwoToTheH();
        startsAnew();
        startsAnewWithTheSameSizes();
        whetherOneOfTheNumbersIsAnother();
        Script.end(SizesEdgesTest.class);
    }

    private static void aNewObjectIsAsAfterSetSizes() {
        String title = "Creates a predictor, as after setSizes(4, 4, 4)";
        BranchPredictor busy = Script.run(title, "setSizes(8, 2, 1) = true;"
                + "train(7, true); train(7, false); predict(3); setSizes(4, 4, 4) = true");
        Twins.goOnAlike(title, new BranchPredictor(), busy);
        Twins.goOnAlike(title, new BranchPredictor(), Script.run(title, "setSizes(4, 4, 4) = false"));
    }

    private static void fourAtFirst() {
        String title = "p, g and h are 4 at first";
        Script.run(title, "setSizes(4, 4, 4) = false");
        Script.run(title, "setSizes(3, 4, 4) = true");
        Script.run(title, "setSizes(5, 4, 4) = true");
        Script.run(title, "setSizes(4, 5, 4) = true");
        Script.run(title, "setSizes(4, 4, 3) = true");
        Script.run(title, "setSizes(4, 4, 0) = true");
        for (int table = 0; table < 3; table++) {
            Script.run(title, "counter(" + table + ", 15) = 1; counter(" + table + ", 16)" + NO_SUCH);
        }
        Script.run(title, "train(1, true);".repeat(4) + "history() = 15; train(1, true); history() = 15");
    }

    private static void pIs2To8() {
        String title = "if p is not 2 to 8";
        for (int p = 2; p <= 8; p++) {
            Script.run(title, "setSizes(" + p + ", 4, 4) = " + (p != 4));
        }
        // 34 and 258 would be 2 to a shift or a byte.
        for (int p : new int[] {1, 9, 0, -1, 34, 258, -254, Integer.MIN_VALUE, Integer.MAX_VALUE}) {
            Script.run(title, BUSY + "setSizes(" + p + ", 4, 4)" + REFUSED + "setSizes(4, 4, 4) = false");
            Script.run(title, BUSY + "setSizes(" + p + ", 8, 0)" + REFUSED);
        }
    }

    private static void gIs2To8() {
        String title = "if g is not 2 to 8";
        for (int g = 2; g <= 8; g++) {
            Script.run(title, "setSizes(4, " + g + ", " + Math.min(g, 4) + ") = " + (g != 4));
        }
        for (int g : new int[] {1, 9, 0, -1, 34, 258, -254, Integer.MIN_VALUE, Integer.MAX_VALUE}) {
            Script.run(title, BUSY + "setSizes(4, " + g + ", 0)" + REFUSED + "setSizes(4, 4, 4) = false");
        }
        Script.run(title, BUSY + "setSizes(4, 9, 4)" + REFUSED + "setSizes(4, 9, 9)" + REFUSED
                + "setSizes(4, 1, 1)" + REFUSED + "setSizes(8, 1, 0)" + REFUSED);
    }

    private static void hIs0ToG() {
        String title = "if h is not 0 to g";
        for (int g = 2; g <= 8; g++) {
            for (int h = 0; h <= g; h++) {
                Script.run(title, "setSizes(4, " + g + ", " + h + ") = " + (g != 4 || h != 4));
            }
            for (int h : new int[] {g + 1, -1, 9, g + 32, g - 256, Integer.MIN_VALUE, Integer.MAX_VALUE}) {
                Script.run(title, BUSY + "setSizes(4, " + g + ", " + h + ")" + REFUSED + "setSizes(4, 4, 4) = false");
            }
        }
        Script.run("h goes to g, not to p", BUSY + "setSizes(8, 2, 3)" + REFUSED + "setSizes(2, 8, 8) = true");
        Script.run("h goes to the new g, not to the old one", "setSizes(4, 2, 2) = true; setSizes(4, 3, 3) = true;"
                + "setSizes(4, 2, 3)" + REFUSED + "setSizes(4, 3, 3) = false");
    }

    private static void severalAreWrong() {
        String title = "p or g is not 2 to 8, or h is not 0 to g, all at once";
        Script.run(title, BUSY + "setSizes(1, 9, 10)" + REFUSED + "setSizes(9, 1, -1)" + REFUSED
                + "setSizes(1, 4, 5)" + REFUSED + "setSizes(4, 9, -1)" + REFUSED + "setSizes(9, 9, 4)" + REFUSED
                + "setSizes(4, 4, 4) = false");
    }

    private static void plainAndChoiceHaveTwoToThePCounters() {
        String title = "The plain table and the choice table have 2^p counters each";
        for (int p = 2; p <= 8; p++) {
            int many = 1 << p;
            String sizes = "setSizes(" + p + ", " + (10 - p) + ", 0);";
            for (int table = 0; table <= 2; table += 2) {
                String counter = "counter(" + table + ", ";
                Script.run(title, sizes + counter + "0) = 1;" + counter + (many - 1) + ") = 1;"
                        + counter + many + ")" + NO_SUCH + counter + "-1)" + NO_SUCH
                        + counter + "2147483647)" + NO_SUCH + counter + "-2147483648)" + NO_SUCH);
            }
            Script.run(title + ": the last one learns", sizes + "train(" + (many - 1) + ", true);"
                    + "counter(0, " + (many - 1) + ") = 2; counter(0, " + many + ")" + NO_SUCH);
        }
    }

    private static void theGlobalTableHasTwoToTheGCounters() {
        String title = "the global table has 2^g";
        for (int g = 2; g <= 8; g++) {
            int many = 1 << g;
            Script.run(title, "setSizes(" + (10 - g) + ", " + g + ", 0); counter(1, 0) = 1;"
                    + "counter(1, " + (many - 1) + ") = 1; counter(1, " + many + ")" + NO_SUCH
                    + "counter(1, -1)" + NO_SUCH + "counter(1, 2147483647)" + NO_SUCH
                    + "counter(1, -2147483648)" + NO_SUCH + "train(" + (many - 1) + ", true);"
                    + "counter(1, " + (many - 1) + ") = 2; counter(1, " + many + ")" + NO_SUCH);
        }
    }

    private static void thereAreThreeTables() {
        Script.run("if there is no such table", BUSY + "counter(-1, 0)" + NO_SUCH + "counter(3, 0)" + NO_SUCH
                + "counter(256, 0)" + NO_SUCH + "counter(2147483647, 0)" + NO_SUCH + "counter(-2147483648, 0)" + NO_SUCH);
        Script.run("if there is neither such a table nor such a counter", BUSY + "counter(-1, -1)" + NO_SUCH
                + "counter(3, 16)" + NO_SUCH + "counter(3, -1)" + NO_SUCH);
    }

    private static void countersAre1AtFirst() {
        for (int p = 2; p <= 8; p++) {
            BranchPredictor x = Script.run("sizes", "setSizes(" + p + ", " + p + ", 0)");
            for (int table = 0; table < 3; table++) {
                for (int i = 0; i < 1 << p; i++) {
                    Script.due("A counter has a value from 0 to 3, 1 at first", x.counter(table, i), 1);
                }
            }
        }
    }

    private static void historyIsUpToTwoToTheHLessOne() {
        for (int h = 0; h <= 8; h++) {
            int most = (1 << h) - 1;
            Script.run("The history is a number from 0 to 2^h - 1", "setSizes(8, 8, " + h + ");"
                    + "train(1, true);".repeat(h) + "history() = " + most + "; train(1, true); history() = " + most
                    + "; train(2, false); history() = " + (most & ~1) + ";" + "train(2, false);".repeat(8)
                    + "history() = 0");
        }
    }

    private static void historyIs0AtFirst() {
        Script.run("The history is 0 at first", "history() = 0; setSizes(8, 8, 8); history() = 0;"
                + "train(1, true); history() = 1; setSizes(8, 8, 8); history() = 0");
    }

    private static void toAppendIsModuloTwoToTheH() {
        Script.run("history = (2 * history + ..) mod 2^h", "setSizes(8, 8, 3); train(1, true); history() = 1;"
                + "train(2, false); history() = 2; train(3, true); history() = 5; train(4, true); history() = 3;"
                + "train(5, false); history() = 6; train(6, false); history() = 4; train(7, false); history() = 0");
        Script.run("mod 2^1", "setSizes(8, 8, 1); train(1, true); history() = 1; train(1, true); history() = 1;"
                + "train(2, false); history() = 0");
        Script.run("mod 2^0", "setSizes(8, 8, 0); train(1, true); history() = 0; predict(1) = true; history() = 0;"
                + "resolve(0, false) = 0; history() = 0; flush(1) = 0; history() = 0");
    }

    private static void startsAnew() {
        String title = "starts anew: no branch is in flight, no loop entry is there, all counters are 1, ..";
        int[][] sizes = {{2, 2, 0}, {8, 8, 8}, {4, 4, 3}, {2, 8, 4}, {8, 2, 2}};
        for (int[] three : sizes) {
            String call = "setSizes(" + three[0] + ", " + three[1] + ", " + three[2] + ") = true";
            Twins.goOnAlike(title, Script.run(title, BUSY + call), Script.run(title, call));
        }
        Script.run(title, BUSY + "setSizes(8, 8, 8) = true; inFlight() = 0; place(0)" + NO_SUCH + "loop(0, 0) = -1;"
                + "counter(0, 7) = 1; counter(1, 8) = 1; counter(2, 7) = 1; history() = 0; commits() = 0; drops() = 0;"
                + "misses(0) = 0; misses(1) = 0; misses(2) = 0; misses(3) = 0; meetings(0, false) = 0;"
                + "meetings(0, true) = 0; meetings(1, false) = 0; meetings(1, true) = 0; accuracy() = 1.0");
    }

    private static void startsAnewWithTheSameSizes() {
        String title = "starts anew, also if no number is another one";
        BranchPredictor x = Script.run(title, BUSY + "setSizes(4, 4, 4) = false");
        Twins.goOnAlike(title, x, new BranchPredictor());
        BranchPredictor y = Script.run(title, "setSizes(2, 3, 1) = true; train(3, true); train(3, false); train(7, true);"
                + "predict(7); setSizes(2, 3, 1) = false");
        Twins.goOnAlike(title, y, Script.run(title, "setSizes(2, 3, 1) = true"));
    }

    private static void whetherOneOfTheNumbersIsAnother() {
        Script.run("whether one of the numbers is another one than before", "setSizes(4, 4, 4) = false;"
                + "setSizes(2, 4, 4) = true; setSizes(2, 4, 4) = false; setSizes(2, 8, 4) = true;"
                + "setSizes(2, 8, 4) = false; setSizes(2, 8, 8) = true; setSizes(2, 8, 8) = false;"
                + "setSizes(8, 8, 8) = true; setSizes(8, 8, 0) = true; setSizes(8, 8, 0) = false;"
                + "setSizes(8, 2, 0) = true; setSizes(2, 8, 0) = true; setSizes(2, 8, 0) = false");
        Script.run("a refused call is none before", "setSizes(5, 5, 6)" + REFUSED + "setSizes(4, 4, 4) = false;"
                + "setSizes(5, 9, 4)" + REFUSED + "setSizes(9, 5, 4)" + REFUSED + "setSizes(4, 4, 4) = false;"
                + "setSizes(5, 5, 4) = true");
    }
}
