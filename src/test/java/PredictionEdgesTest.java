/**
 * The edges of "Prediction of a branch" in the document's description. Each method is for one
 * sentence, which its title repeats.
 *
 * <p>Many runs begin with setSizes(2, 8, 0) or setSizes(8, 2, 0): then places 0, 4, 8, .. share a
 * counter in one table and have counters of their own in the other, so the two can be told apart.
 */
public final class PredictionEdgesTest {
    public static void main(String[] args) {
        aPlainCounterSaysTakenIfItIs2Or3();
        aGlobalCounterSaysTakenIfItIs2Or3();
        aChoiceCounterSaysTakenIfItIs2Or3();
        plainIndexWrapsAtTwoToTheP();
        globalIndexWrapsAtTwoToTheG();
        xorWithAFullHistory();
        choiceIndexWrapsAtTwoToTheP();
        trustOf3();
        presumedCountIsLessThanItsTrip();
        theLeastTrip();
        sixteenTurnsOfALoop();
        thePredictionIsAppended();
        Script.end(PredictionEdgesTest.class);
    }

    private static String train(int many, int place, boolean isTaken) {
        return ("train(" + place + ", " + isTaken + ");").repeat(many);
    }

    /** Place 4 has the counter's value in its own table, the other counter says the opposite. */
    private static String ownCounterIs(int value) {
        switch (value) {
            case 0:
                return train(1, 4, false) + train(3, 0, true);
            case 1:
                return train(3, 0, true);
            case 2:
                return train(1, 4, true) + train(2, 0, false);
            default:
                return train(2, 4, true) + train(3, 0, false);
        }
    }

    private static void aPlainCounterSaysTakenIfItIs2Or3() {
        for (int value = 0; value <= 3; value++) {
            Script.run("a plain counter says \"taken\" if it is 2 or 3", "setSizes(8, 2, 0);" + ownCounterIs(value)
                    + "counter(0, 4) = " + value + "; counter(1, 0) = " + (value < 2 ? 3 : 0) + "; predict(4);"
                    + "predicted(0, 0) = " + (value >= 2) + "; predicted(0, 1) = " + (value < 2));
        }
    }

    private static void aGlobalCounterSaysTakenIfItIs2Or3() {
        for (int value = 0; value <= 3; value++) {
            Script.run("a global counter says \"taken\" if it is 2 or 3", "setSizes(2, 8, 0);" + ownCounterIs(value)
                    + "counter(1, 4) = " + value + "; counter(0, 0) = " + (value < 2 ? 3 : 0) + "; predict(4);"
                    + "predicted(0, 1) = " + (value >= 2) + "; predicted(0, 0) = " + (value < 2));
        }
    }

    /** Plain counter 0 says "taken" for all of the places, global counters 0 and 8 do not. */
    private static void aChoiceCounterSaysTakenIfItIs2Or3() {
        String start = "setSizes(2, 8, 0);" + train(3, 4, true) + "counter(2, 0) = 1;";
        Script.run("the choice counter 1: the plain one", start + "predict(0) = true; predicted(0, 0) = true;"
                + "predicted(0, 1) = false; predicted(0, 2) = true; predicted(0, 3) = true");
        Script.run("the choice counter 0: the plain one", start + train(1, 0, true) + "counter(2, 0) = 0;"
                + "predict(8) = true; predicted(0, 0) = true; predicted(0, 1) = false; predicted(0, 2) = true");
        Script.run("the choice counter 2: the global one", start + train(1, 0, false) + "counter(2, 0) = 2;"
                + "predict(0) = false; predicted(0, 0) = true; predicted(0, 1) = false; predicted(0, 2) = false;"
                + "predicted(0, 3) = false; predict(4) = true; predicted(1, 0) = true; predicted(1, 1) = true");
        Script.run("the choice counter 3: the global one", start + train(2, 0, false) + "counter(2, 0) = 3;"
                + "counter(0, 0) = 1; predict(4) = true; predicted(0, 0) = false; predicted(0, 1) = true;"
                + "predicted(0, 2) = true; predicted(0, 3) = true");
    }

    private static void plainIndexWrapsAtTwoToTheP() {
        for (int p = 2; p <= 8; p++) {
            int many = 1 << p;
            String title = "the plain counter with the index b mod 2^p, p = " + p;
            String sizes = "setSizes(" + p + ", 8, 0);";
            Script.run(title, sizes + train(1, many, true) + "counter(0, 0) = 2; counter(0, 1) = 1; predict(0);"
                    + "predicted(0, 0) = true; predict(" + (many - 1) + "); predicted(1, 0) = false");
            Script.run(title, sizes + train(1, 65535, true) + "counter(0, " + (many - 1) + ") = 2; counter(0, 0) = 1;"
                    + "predict(" + (many - 1) + "); predicted(0, 0) = true; predict(" + (2 * many - 1) + ");"
                    + "predicted(1, 0) = true; predict(" + many + "); predicted(2, 0) = false");
        }
    }

    private static void globalIndexWrapsAtTwoToTheG() {
        for (int g = 2; g <= 8; g++) {
            int many = 1 << g;
            String title = "the global counter with the index (b xor history) mod 2^g, g = " + g;
            String sizes = "setSizes(8, " + g + ", 0);";
            Script.run(title, sizes + train(1, many, true) + "counter(1, 0) = 2; counter(1, 1) = 1; predict(0);"
                    + "predicted(0, 1) = true; predict(" + (many - 1) + "); predicted(1, 1) = false");
            Script.run(title, sizes + train(1, 65535, true) + "counter(1, " + (many - 1) + ") = 2; counter(1, 0) = 1;"
                    + "predict(" + (many - 1) + "); predicted(0, 1) = true; predict(" + many + "); predicted(1, 1) = false");
        }
    }

    /** Place 1 uses the global counters 1, 0, 2, 6, .. while the history fills. */
    private static void xorWithAFullHistory() {
        for (int g = 2; g <= 8; g++) {
            int last = (1 << g) - 1;
            String full = "setSizes(8, " + g + ", " + g + ");" + train(g, 1, true) + "history() = " + last + ";";
            Script.run("xor with the greatest history, the place 0", full + "counter(1, " + last + ") = 1;"
                    + train(1, 0, true) + "counter(1, " + last + ") = 2; counter(0, 0) = 2");
            Script.run("xor with the greatest history, the place 65535", full + "counter(1, 0) = 2;"
                    + train(1, 65535, true) + "counter(1, 0) = 3; counter(1, " + last + ") = 1; counter(0, 255) = 2");
        }
        Script.run("a history that is shorter than the index", "setSizes(8, 8, 2);" + train(2, 1, true)
                + "history() = 3;" + train(1, 255, true) + "counter(1, 252) = 2;" + train(1, 256, true)
                + "counter(1, 3) = 2; counter(1, 255) = 1");
    }

    private static void choiceIndexWrapsAtTwoToTheP() {
        for (int p = 2; p <= 7; p++) {
            int many = 1 << p;
            Script.run("The choice counter with the index b mod 2^p decides, p = " + p, "setSizes(" + p + ", 8, 0);"
                    + train(3, many, true) + train(1, 0, false) + "counter(2, 0) = 2; counter(2, 1) = 1;"
                    + "counter(2, " + (many - 1) + ") = 1; predict(0) = false; predicted(0, 0) = true;"
                    + "predicted(0, 2) = false");
        }
    }

    /** Place 7 is taken twice and then not; each further turn gives one more of trust. */
    private static String turnsOfSeven(int turns) {
        return "setSizes(8, 8, 0);" + (train(2, 7, true) + train(1, 7, false)).repeat(turns);
    }

    private static void trustOf3() {
        String three = "predict(7) = true; predict(7) = true; predict(7) = ";
        for (int trust = 0; trust <= 3; trust++) {
            Script.run("If there is a loop entry with the place b and the trust 3", turnsOfSeven(2 + trust)
                    + "loop(0, 3) = " + trust + "; loop(0, 2) = 2;" + three + (trust < 3) + "; predicted(2, 2) = true;"
                    + "predicted(2, 3) = " + (trust < 3));
        }
        Script.run("with the place b: 263 has the counters of 7 and no entry", turnsOfSeven(5)
                + (three + true).replace("(7)", "(263)"));
        Script.run("with the trust 3: it is lost", turnsOfSeven(5) + train(3, 7, true) + train(1, 7, false)
                + "loop(0, 3) = 0; loop(0, 2) = 3;" + three + "true; predict(7) = true");
    }

    private static void presumedCountIsLessThanItsTrip() {
        String title = "the prediction is \"taken\" if its presumed count is less than its trip, ";
        Script.run(title + "0 of 2", turnsOfSeven(5) + "loop(0, 4) = 0; predict(7) = true");
        Script.run(title + "1 of 2", turnsOfSeven(5) + train(1, 7, true) + "loop(0, 4) = 1; predict(7) = true");
        Script.run(title + "2 of 2", turnsOfSeven(5) + train(2, 7, true) + "loop(0, 4) = 2; predict(7) = false;"
                + "predicted(0, 0) = true; predicted(0, 1) = true; predicted(0, 2) = true; predicted(0, 3) = false");
        Script.run(title + "3 of 2", turnsOfSeven(5) + train(3, 7, true) + "loop(0, 4) = 3; predict(7) = false");
        Script.run(title + "2 of 2, one of them in flight", turnsOfSeven(5) + train(1, 7, true)
                + "predict(7) = true; loop(0, 1) = 1; loop(0, 4) = 2; predict(7) = false; loop(0, 4) = 0");
        Script.run(title + "3 of 2, in flight", turnsOfSeven(5) + "predict(7) = true; predict(7) = true;"
                + "predict(7) = false; resolve(2, true) = 0; loop(0, 4) = 3; predict(7) = false; loop(0, 4) = 0");
    }

    private static void theLeastTrip() {
        String turns = "setSizes(8, 8, 0);" + (train(1, 7, true) + train(1, 7, false)).repeat(5);
        Script.run("a trip of 1", turns + "loop(0, 2) = 1; loop(0, 3) = 3; predict(7) = true; predict(7) = false;"
                + "predict(7) = true; predict(7) = false");
        Script.run("a trip of 0 is never trusted", "setSizes(8, 8, 0);" + train(1, 7, true) + train(9, 7, false)
                + "loop(0, 0) = 7; loop(0, 2) = 0; loop(0, 3) = 0; predict(7) = false");
    }

    private static void sixteenTurnsOfALoop() {
        StringBuilder calls = new StringBuilder(turnsOfSeven(5));
        for (int i = 0; i < 16; i++) {
            calls.append("predict(7) = ").append(i % 3 < 2).append(";");
        }
        Script.run("the loop goes on while all 16 are in flight", calls + "loop(0, 1) = 0; loop(0, 4) = 1;"
                + "predict(7) = throws IllegalStateException; loop(0, 4) = 1; resolve(0, true) = -1; commit() = false;"
                + "loop(0, 1) = 1; loop(0, 4) = 1; predict(7) = true; loop(0, 4) = 2");
    }

    private static void thePredictionIsAppended() {
        String title = "Then the prediction is appended to the history";
        Script.run(title + ": taken, to the greatest one", train(4, 5, true) + "history() = 15; predict(5) = true;"
                + "history() = 15; predict(6) = false; history() = 14; predict(5) = true; history() = 13");
        Script.run(title + ": not the choice, if the loop decides", turnsOfSeven(5).replace("8, 8, 0", "8, 8, 1")
                + "loop(0, 3) = 3;" + train(2, 7, true) + "history() = 1; predict(7) = false; history() = 0;"
                + "predict(7) = true; history() = 1");
        Script.run(title + ": a refused one is not", "setSizes(8, 8, 8);" + train(1, 5, true) + train(1, 5, true)
                + "predict(5) = true;".repeat(3) + "history() = 31; predict(65536) = throws IllegalArgumentException;"
                + "history() = 31;" + "predict(6) = false;".repeat(3) + "history() = 248;"
                + "predict(5) = true;".repeat(10) + "history() = 255; predict(6) = throws IllegalStateException;"
                + "history() = 255");
    }
}
