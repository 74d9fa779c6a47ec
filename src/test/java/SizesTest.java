/** Promises 1 (a new object) and 2 (setSizes). */
public final class SizesTest {
    private static final String BUSY = "train(7, true); train(7, true); train(7, false); train(23, false);"
            + "train(7, true); train(7, false); predict(7); predict(9); predict(11); flush(1);"
            + "resolve(1, true); predict(3); predict(4);";

    public static void main(String[] args) {
        newObject();
        otherSizes();
        refusedSizes();
        startsAnew();
        Script.end(SizesTest.class);
    }

    private static void newObject() {
        BranchPredictor x = Script.run("a new object", "inFlight() = 0; history() = 0;"
                + "commits() = 0; drops() = 0; accuracy() = 1.0;"
                + "misses(0) = 0; misses(1) = 0; misses(2) = 0; misses(3) = 0;"
                + "meetings(0, false) = 0; meetings(0, true) = 0;"
                + "meetings(1, false) = 0; meetings(1, true) = 0");
        for (int table = 0; table < 3; table++) {
            for (int i = 0; i < 16; i++) {
                Script.due("a new counter", x.counter(table, i), 1);
            }
            Script.go(x, "four bits at first", "counter(" + table + ", 16) = throws IndexOutOfBoundsException");
        }
        for (int number = 0; number < 8; number++) {
            for (int what = 0; what < 5; what++) {
                Script.due("no loop at first", x.loop(number, what), -1);
            }
        }
        Script.run("the history has four bits at first", "train(1, true); train(1, true); train(1, true);"
                + "history() = 7; train(1, true); history() = 15; train(1, true); history() = 15;"
                + "train(1, false); history() = 14");
        Script.run("a new object is as after setSizes(4, 4, 4)", "setSizes(4, 4, 4) = false");
        BranchPredictor y = Script.run("sizes", "setSizes(5, 6, 3) = true; setSizes(4, 4, 4) = true");
        Script.due("as after setSizes(4, 4, 4)", Snapshot.of(y), Snapshot.of(new BranchPredictor()));
    }

    private static void otherSizes() {
        Script.run("each number alone", "setSizes(5, 4, 4) = true; setSizes(5, 4, 4) = false;"
                + "setSizes(5, 5, 4) = true; setSizes(5, 5, 4) = false;"
                + "setSizes(5, 5, 5) = true; setSizes(5, 5, 5) = false; setSizes(5, 5, 0) = true");
        Script.run("the least sizes", "setSizes(2, 2, 0) = true;"
                + "counter(0, 3) = 1; counter(0, 4) = throws IndexOutOfBoundsException;"
                + "counter(1, 3) = 1; counter(1, 4) = throws IndexOutOfBoundsException;"
                + "counter(2, 3) = 1; counter(2, 4) = throws IndexOutOfBoundsException;"
                + "train(1, true) = false; history() = 0");
        Script.run("the greatest sizes", "setSizes(8, 8, 8) = true;"
                + "counter(0, 255) = 1; counter(0, 256) = throws IndexOutOfBoundsException;"
                + "counter(1, 255) = 1; counter(1, 256) = throws IndexOutOfBoundsException;"
                + "counter(2, 255) = 1; counter(2, 256) = throws IndexOutOfBoundsException;"
                + "train(255, true) = false; counter(0, 255) = 2; counter(1, 255) = 2");
        Script.run("p is for plain and choice, g for global", "setSizes(3, 6, 5) = true;"
                + "counter(0, 7) = 1; counter(0, 8) = throws IndexOutOfBoundsException;"
                + "counter(1, 63) = 1; counter(1, 64) = throws IndexOutOfBoundsException;"
                + "counter(2, 7) = 1; counter(2, 8) = throws IndexOutOfBoundsException");
        Script.run("h up to g", "setSizes(8, 2, 2) = true; setSizes(2, 8, 8) = true; setSizes(2, 3, 3) = true");
    }

    private static void refusedSizes() {
        String[] sizes = {"1, 4, 4", "9, 4, 4", "0, 4, 4", "-1, 4, 4", "2147483647, 4, 4", "-2147483648, 4, 4",
            "4, 1, 1", "4, 9, 4", "4, 0, 0", "4, -1, 0", "4, 2147483647, 4", "4, -2147483648, 4",
            "4, 4, -1", "4, 4, 5", "4, 2, 3", "8, 8, 9", "4, 4, 2147483647", "4, 4, -2147483648", "34, 36, 4"};
        for (String three : sizes) {
            Script.run("refused sizes", BUSY + "setSizes(" + three + ") = throws IllegalArgumentException");
        }
    }

    private static void startsAnew() {
        BranchPredictor same = Script.run("anew", BUSY + "setSizes(4, 4, 4) = false");
        Script.due("the same sizes start anew", Snapshot.of(same), Snapshot.of(new BranchPredictor()));
        BranchPredictor other = Script.run("anew", BUSY + "setSizes(8, 3, 2) = true");
        BranchPredictor fresh = Script.run("fresh", "setSizes(8, 3, 2) = true");
        Script.due("other sizes start anew", Snapshot.of(other), Snapshot.of(fresh));
        Script.run("the latest places are forgotten", "train(1, true); setSizes(4, 4, 4) = false;"
                + "train(17, true); meetings(0, false) = 0; meetings(1, false) = 0;"
                + "train(1, true); meetings(0, false) = 1");
        Script.run("loops are forgotten", BUSY + "loop(0, 0) = 7; setSizes(4, 4, 4) = false;"
                + "loop(0, 0) = -1; train(5, true); train(5, false); loop(0, 0) = 5; loop(0, 2) = 0;"
                + "loop(1, 0) = -1");
        Script.run("a refused call leaves the sizes", "setSizes(5, 4, 4) = true;"
                + "setSizes(6, 4, 9) = throws IllegalArgumentException; setSizes(5, 4, 4) = false");
    }
}
