/** Promise 4 (resolve), 10 (state) and 12 (history). */
public final class ResolveTest {
    public static void main(String[] args) {
        rightAndWrong();
        historyIsRepaired();
        states();
        refused();
        Script.end(ResolveTest.class);
    }

    private static void rightAndWrong() {
        Script.run("right", "predict(1); predict(2); resolve(0, false) = -1; inFlight() = 2; drops() = 0;"
                + "resolve(1, false) = -1; inFlight() = 2; commits() = 0; misses(3) = 0");
        Script.run("wrong in the middle", "predict(1); predict(2); predict(3); predict(4);"
                + "resolve(1, true) = 2; inFlight() = 2; place(0) = 1; place(1) = 2; drops() = 2");
        Script.run("wrong at the end drops none", "predict(1); predict(2); resolve(1, true) = 0;"
                + "inFlight() = 2; drops() = 0; state(0) = 0; state(1) = 2");
        Script.run("resolved branches are dropped too", "predict(1); predict(2); predict(3);"
                + "resolve(2, true) = 0; resolve(1, false) = -1; resolve(0, true) = 2; inFlight() = 1; drops() = 2");
        Script.run("fifteen are dropped", "predict(0); predict(1); predict(2); predict(3); predict(4);"
                + "predict(5); predict(6); predict(7); predict(8); predict(9); predict(10); predict(11);"
                + "predict(12); predict(13); predict(14); predict(15); resolve(0, true) = 15; drops() = 15;"
                + "inFlight() = 1");
        Script.run("resolving teaches no table", "predict(1); resolve(0, true); counter(0, 1) = 1;"
                + "counter(1, 1) = 1; counter(2, 1) = 1; loop(0, 0) = -1");
        Script.run("taken was predicted", "train(5, true) = false; train(5, true) = true; predict(5) = true;"
                + "predict(6) = false; resolve(0, true) = -1; inFlight() = 2; resolve(1, true) = 0");
    }

    private static void historyIsRepaired() {
        Script.run("right leaves the history", "train(5, true); predict(1); predict(2); history() = 4;"
                + "resolve(0, false) = -1; history() = 4");
        Script.run("wrong: what it was ahead, with the outcome", "train(5, true); predict(1); predict(2);"
                + "predict(3); history() = 8; resolve(1, true) = 1; history() = 5; resolve(0, true) = 1;"
                + "history() = 3");
        Script.run("wrong, not taken", "train(5, true); train(5, true); history() = 3; predict(5) = true;"
                + "predict(5) = true; history() = 15; resolve(1, false) = 0; history() = 14;"
                + "resolve(0, false) = 1; history() = 6");
        Script.run("the history wraps", "setSizes(4, 4, 2); predict(1); resolve(0, true) = 0; history() = 1;"
                + "predict(1) = false; resolve(1, true) = 0; history() = 3; predict(1) = false; history() = 2;"
                + "resolve(2, true) = 0; history() = 3");
        Script.run("no history with h = 0", "setSizes(4, 4, 0); predict(1); resolve(0, true) = 0; history() = 0");
        Script.run("predicting goes on with the repaired one", "predict(1); predict(2); resolve(0, true) = 1;"
                + "predict(4) = false; history() = 2; resolve(1, true) = 0; history() = 3");
        Script.run("eight bits", "setSizes(8, 8, 8); train(1, true); train(2, true); train(3, true);"
                + "train(4, true); train(5, true); train(6, true); train(7, true); train(8, true);"
                + "history() = 255; train(9, false); history() = 254");
    }

    private static void states() {
        Script.run("states", "state(0) = throws IndexOutOfBoundsException; predict(1); predict(2); predict(3);"
                + "state(0) = 0; state(1) = 0; resolve(1, false) = -1; state(1) = 1; state(0) = 0; state(2) = 0;"
                + "resolve(2, true) = 0; state(2) = 2; state(3) = throws IndexOutOfBoundsException;"
                + "state(-1) = throws IndexOutOfBoundsException;"
                + "state(2147483647) = throws IndexOutOfBoundsException;"
                + "state(-2147483648) = throws IndexOutOfBoundsException");
        Script.run("a slot used again begins unresolved", "predict(1); resolve(0, true); flush(1) = 0;"
                + "predict(2); state(0) = 0; resolve(0, false) = -1; state(0) = 1");
    }

    private static void refused() {
        Script.run("refused", "resolve(0, true) = throws IndexOutOfBoundsException; predict(1);"
                + "resolve(1, true) = throws IndexOutOfBoundsException;"
                + "resolve(-1, true) = throws IndexOutOfBoundsException;"
                + "resolve(16, false) = throws IndexOutOfBoundsException;"
                + "resolve(2147483647, false) = throws IndexOutOfBoundsException;"
                + "resolve(-2147483648, false) = throws IndexOutOfBoundsException;"
                + "predict(2); resolve(0, false) = -1; resolve(0, true) = throws IllegalStateException;"
                + "resolve(0, false) = throws IllegalStateException; resolve(1, true) = 0;"
                + "resolve(1, true) = throws IllegalStateException;"
                + "resolve(2, true) = throws IndexOutOfBoundsException");
    }
}
