/** Promises 13 (counter) and 18 (meetings). */
public final class TablesTest {
    public static void main(String[] args) {
        counters();
        meetings();
        meetingsInTheGlobalTable();
        refused();
        Script.end(TablesTest.class);
    }

    private static void counters() {
        Script.run("counters", "setSizes(3, 4, 4); train(9, true); counter(0, 1) = 2; counter(1, 9) = 2;"
                + "counter(0, 7) = 1; counter(1, 15) = 1; counter(2, 7) = 1;"
                + "counter(0, 8) = throws IndexOutOfBoundsException; counter(2, 8) = throws IndexOutOfBoundsException;"
                + "counter(1, 16) = throws IndexOutOfBoundsException; counter(0, -1) = throws IndexOutOfBoundsException;"
                + "counter(1, -1) = throws IndexOutOfBoundsException; counter(2, -1) = throws IndexOutOfBoundsException;"
                + "counter(3, 0) = throws IndexOutOfBoundsException; counter(-1, 0) = throws IndexOutOfBoundsException;"
                + "counter(2147483647, 0) = throws IndexOutOfBoundsException;"
                + "counter(0, 2147483647) = throws IndexOutOfBoundsException;"
                + "counter(1, -2147483648) = throws IndexOutOfBoundsException");
        Script.run("predicting and resolving leave them", "predict(3); resolve(0, true); counter(0, 3) = 1;"
                + "counter(1, 3) = 1; commit(); counter(0, 3) = 2; counter(1, 3) = 2");
    }

    /** Without a history both tables meet in the same way. */
    private static void meetings() {
        Script.run("the first branch meets none", "setSizes(4, 4, 0); train(1, true); train(1, true);"
                + "meetings(0, false) = 0; meetings(1, false) = 0");
        Script.run("another place meets; harm is told by the counter ahead of learning",
                "setSizes(4, 4, 0); train(1, true); train(17, true); meetings(0, false) = 1; meetings(0, true) = 0;"
                + "meetings(1, false) = 1; meetings(1, true) = 0; train(33, false); meetings(0, false) = 2;"
                + "meetings(0, true) = 1; meetings(1, false) = 2; meetings(1, true) = 1; train(33, false);"
                + "meetings(0, false) = 2; meetings(0, true) = 1; train(17, true); meetings(0, false) = 3;"
                + "meetings(0, true) = 2; counter(0, 1) = 2");
        Script.run("a counter that stays is confirmed", "setSizes(4, 4, 0); train(1, false); train(17, false);"
                + "meetings(0, false) = 1; counter(0, 1) = 0; train(17, false); meetings(0, false) = 1;"
                + "train(1, false); meetings(0, false) = 2; meetings(0, true) = 0");
        Script.run("harm against a counter of 1 that learns to say taken", "setSizes(4, 4, 0); train(1, true);"
                + "train(1, false); counter(0, 1) = 1; train(17, true); meetings(0, true) = 1; counter(0, 1) = 2");
        Script.run("the place 0 is a place", "setSizes(4, 4, 0); train(0, true); train(16, true);"
                + "meetings(0, false) = 1; train(0, true); meetings(0, false) = 2");
        Script.run("only commits count", "setSizes(4, 4, 0); train(1, true); predict(17); predict(33); flush(2) = 0;"
                + "meetings(0, false) = 0; train(1, true); meetings(0, false) = 0; predict(17); resolve(0, true);"
                + "meetings(0, false) = 0; commit(); meetings(0, false) = 1");
    }

    private static void meetingsInTheGlobalTable() {
        Script.run("the global table meets by the history", "train(3, true); train(2, true);"
                + "meetings(0, false) = 0; meetings(1, false) = 1; meetings(1, true) = 0;"
                + "train(0, false); meetings(1, false) = 2; meetings(1, true) = 1; meetings(0, false) = 0");
        Script.run("the plain table meets by the place", "train(3, true); train(19, true); meetings(0, false) = 1;"
                + "meetings(0, true) = 0; meetings(1, false) = 0; train(3, false); meetings(0, false) = 2;"
                + "meetings(0, true) = 1; meetings(1, false) = 0");
    }

    private static void refused() {
        Script.run("refused", "meetings(2, false) = throws IndexOutOfBoundsException;"
                + "meetings(2, true) = throws IndexOutOfBoundsException;"
                + "meetings(-1, false) = throws IndexOutOfBoundsException;"
                + "meetings(2147483647, true) = throws IndexOutOfBoundsException;"
                + "meetings(-2147483648, true) = throws IndexOutOfBoundsException");
    }
}
