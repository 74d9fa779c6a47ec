/** Promises 7 (flush), 8 (inFlight), 9 (place) and 17 (drops). */
public final class FlightTest {
    public static void main(String[] args) {
        flushing();
        refusedFlushes();
        places();
        drops();
        Script.end(FlightTest.class);
    }

    private static void flushing() {
        Script.run("the youngest go", "predict(1); predict(2); predict(3); flush(1) = 2; place(0) = 1;"
                + "place(1) = 2; inFlight() = 2; drops() = 1; flush(2) = 0; inFlight() = 0; drops() = 3");
        Script.run("none", "flush(0) = 0; train(5, true); predict(1); history() = 2; flush(0) = 1;"
                + "history() = 2; drops() = 0");
        Script.run("the history ahead of the oldest one of them", "train(5, true); train(5, true);"
                + "history() = 3; predict(5) = true; history() = 7; predict(5) = true; history() = 15;"
                + "predict(1) = false; history() = 14; flush(1) = 2; history() = 15; predict(1) = false;"
                + "flush(2) = 1; history() = 7; flush(1) = 0; history() = 3");
        Script.run("behind a wrong branch", "predict(1); resolve(0, true); history() = 1; predict(2);"
                + "history() = 2; flush(1) = 1; history() = 1; flush(1) = 0; history() = 0; drops() = 2");
        Script.run("flushed branches teach nothing", "predict(1); resolve(0, true); flush(1) = 0;"
                + "counter(0, 1) = 1; counter(1, 1) = 1; commits() = 0; misses(3) = 0;"
                + "commit() = throws IllegalStateException");
        Script.run("round the ring", "train(1, false); train(1, false); train(1, false); train(1, false);"
                + "train(1, false); train(1, false); train(1, false); train(1, false); train(1, false);"
                + "train(1, false); train(1, false); train(1, false); train(1, false); train(1, false);"
                + "predict(2); predict(3); predict(4); predict(5); place(3) = 5; flush(3) = 1; place(0) = 2;"
                + "predict(9); place(1) = 9; predicted(1, 0) = false; state(1) = 0");
    }

    private static void refusedFlushes() {
        Script.run("refused", "flush(1) = throws IllegalArgumentException; flush(-1) = throws IllegalArgumentException;"
                + "predict(1); predict(2); flush(3) = throws IllegalArgumentException;"
                + "flush(-1) = throws IllegalArgumentException; flush(2147483647) = throws IllegalArgumentException;"
                + "flush(-2147483648) = throws IllegalArgumentException; flush(2) = 0");
    }

    private static void places() {
        Script.run("places", "place(0) = throws IndexOutOfBoundsException; predict(65535); predict(0); predict(65535);"
                + "inFlight() = 3; place(0) = 65535; place(1) = 0; place(2) = 65535;"
                + "place(3) = throws IndexOutOfBoundsException; place(-1) = throws IndexOutOfBoundsException;"
                + "place(2147483647) = throws IndexOutOfBoundsException;"
                + "place(-2147483648) = throws IndexOutOfBoundsException; resolve(0, false); commit();"
                + "inFlight() = 2; place(0) = 0; place(1) = 65535; place(2) = throws IndexOutOfBoundsException");
    }

    private static void drops() {
        Script.run("drops by resolving and by flush", "drops() = 0; predict(1); predict(2); predict(3);"
                + "resolve(1, true) = 1; drops() = 1; flush(2) = 0; drops() = 3; train(9, true) = false;"
                + "drops() = 3; predict(1); resolve(0, false); commit(); drops() = 3");
    }
}
