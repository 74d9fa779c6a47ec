/** Promise 3 (predict) and promise 11 (predicted). */
public final class PredictTest {
    /** Place 7 is taken twice and then not: three bits of trust are earned behind these calls. */
    static final String TRUSTED_LOOP = "setSizes(8, 8, 0); train(7, true) = false; train(7, true) = true;"
            + "train(7, false) = false;"
            + "train(7, true) = true; train(7, true) = true; train(7, false) = false;"
            + "train(7, true) = true; train(7, true) = true; train(7, false) = false;"
            + "train(7, true) = true; train(7, true) = true; train(7, false) = false;"
            + "train(7, true) = true; train(7, true) = true; train(7, false) = false;";

    public static void main(String[] args) {
        places();
        sixteenInFlight();
        plainAndGlobal();
        choice();
        loops();
        predictedIsKept();
        refusedViews();
        Script.end(PredictTest.class);
    }

    private static void places() {
        Script.run("places", "predict(0) = false; predict(65535) = false; place(0) = 0; place(1) = 65535;"
                + "predict(-1) = throws IllegalArgumentException;"
                + "predict(65536) = throws IllegalArgumentException;"
                + "predict(2147483647) = throws IllegalArgumentException;"
                + "predict(-2147483648) = throws IllegalArgumentException; inFlight() = 2");
    }

    private static void sixteenInFlight() {
        StringBuilder calls = new StringBuilder();
        for (int i = 0; i < 16; i++) {
            calls.append("inFlight() = ").append(i).append("; predict(").append(100 + i).append(") = false;");
        }
        calls.append("inFlight() = 16; predict(1) = throws IllegalStateException;"
                + "predict(-1) = throws IllegalArgumentException;"
                + "predict(65536) = throws IllegalArgumentException;");
        Script.run("16 in flight", calls.toString());
        Script.run("room behind a commit", calls + "resolve(0, false) = -1; commit() = false;"
                + "predict(500) = false; inFlight() = 16; place(15) = 500; place(0) = 101;"
                + "predict(1) = throws IllegalStateException");
        Script.run("room behind a flush", calls + "flush(2) = 14; predict(500) = false; place(14) = 500;"
                + "predict(501) = false; predict(1) = throws IllegalStateException");
    }

    private static void plainAndGlobal() {
        Script.run("the plain index is b mod 2^p", "train(3, true) = false; predict(19) = true;"
                + "predicted(0, 0) = true; predicted(0, 1) = false; predicted(0, 2) = true; predicted(0, 3) = true");
        Script.run("the global index is (b xor history) mod 2^g", "train(3, true) = false; history() = 1;"
                + "predict(2) = false; predicted(0, 0) = false; predicted(0, 1) = true;"
                + "predicted(0, 2) = false; predicted(0, 3) = false; history() = 2;"
                + "predict(17) = false; predicted(1, 1) = true; predicted(1, 0) = false");
        Script.run("g is less than p", "setSizes(4, 2, 0); train(7, true) = false; predict(11) = false;"
                + "predicted(0, 1) = true; predicted(0, 0) = false");
        Script.run("the prediction goes into the history", "train(3, true); train(3, true); history() = 3;"
                + "predict(3) = true; history() = 7; predict(4) = false; history() = 14;"
                + "predict(3) = true; history() = 13");
    }

    /** Choice counter 3 has learned to follow the global prediction. */
    private static void choice() {
        Script.run("the choice is the global one", "train(3, true) = false; train(3, false) = false;"
                + "counter(2, 3) = 2; train(3, true) = false; history() = 5; predict(3) = false;"
                + "predicted(0, 0) = true; predicted(0, 1) = false; predicted(0, 2) = false;"
                + "predicted(0, 3) = false; history() = 10");
        Script.run("the choice counter's index is b mod 2^p", "train(3, true) = false; train(3, false) = false;"
                + "train(3, true) = false; predict(19) = false; predicted(0, 0) = true;"
                + "predicted(0, 1) = false; predicted(0, 2) = false");
    }

    private static void loops() {
        Script.run("a loop with the trust 3 decides", TRUSTED_LOOP + "loop(0, 3) = 3; loop(0, 2) = 2;"
                + "loop(0, 1) = 0; predict(7) = true; predict(7) = true; predict(7) = false;"
                + "predict(7) = true; predicted(2, 0) = true; predicted(2, 1) = true; predicted(2, 2) = true;"
                + "predicted(2, 3) = false; predicted(3, 3) = true");
        Script.run("the loop's prediction is right at its end", TRUSTED_LOOP + "train(7, true) = true;"
                + "train(7, true) = true; train(7, false) = true; misses(3) = 6; misses(2) = 7");
        Script.run("its prediction goes into the history", TRUSTED_LOOP.replace("8, 8, 0", "8, 8, 1")
                .replaceAll(" = (true|false)", "") + "loop(0, 3) = 3; predict(7) = true; history() = 1;"
                + "predict(7) = true; history() = 1; predict(7) = false; history() = 0");
        String twoOfTrust = TRUSTED_LOOP.substring(0, TRUSTED_LOOP.lastIndexOf("train(7, true) = true; train"));
        Script.run("the trust 2 is too little", twoOfTrust + "loop(0, 3) = 2; predict(7) = true;"
                + "predict(7) = true; predict(7) = true");
        Script.run("another place has no loop", TRUSTED_LOOP + "predict(263) = true; predict(263) = true;"
                + "predict(263) = true; loop(0, 4) = 0");
        Script.run("a resolved branch counts as it was resolved", TRUSTED_LOOP + "predict(7) = true;"
                + "resolve(0, false) = 0; predict(7) = true; predict(7) = true; predict(7) = false");
    }

    private static void predictedIsKept() {
        Script.run("what was predicted stays while tables learn", "predict(3) = false; predict(19) = false;"
                + "resolve(1, false) = -1; resolve(0, true) = 1; predict(19) = false; resolve(0, true) ="
                + " throws IllegalStateException; commit() = true; counter(0, 3) = 2; predicted(0, 0) = false;"
                + "predict(3) = true; predicted(1, 0) = true; predicted(0, 3) = false");
    }

    private static void refusedViews() {
        Script.run("refused views", "predicted(0, 0) = throws IndexOutOfBoundsException; predict(1) = false;"
                + "predicted(1, 0) = throws IndexOutOfBoundsException;"
                + "predicted(-1, 0) = throws IndexOutOfBoundsException;"
                + "predicted(16, 0) = throws IndexOutOfBoundsException;"
                + "predicted(0, -1) = throws IndexOutOfBoundsException;"
                + "predicted(0, 4) = throws IndexOutOfBoundsException;"
                + "predicted(2147483647, 3) = throws IndexOutOfBoundsException;"
                + "predicted(0, -2147483648) = throws IndexOutOfBoundsException; predicted(0, 3) = false");
    }
}
