/**
 * The edges of "Branches" in the document's description, and of promises 3 and 7 to 11. Each method
 * is for one sentence, which its title repeats.
 */
public final class FlightEdgesTest {
    private static final String BAD_ARGUMENT = " = throws IllegalArgumentException;";
    private static final String NO_SUCH = " = throws IndexOutOfBoundsException;";
    private static final String BAD_STATE = " = throws IllegalStateException;";
    private static final int[] NO_PLACES = {-1, 65536, 131072, -65536, Integer.MIN_VALUE, Integer.MAX_VALUE};

    public static void main(String[] args) {
        placeIs0To65535();
        placeIs0To65535ForTrain();
        atMost16();
        atMost16BehindAnyNumberOfCommits();
        placeIsNamedAheadOfSixteen();
        thereIsRoomAgain();
        untilTheyAreCommittedOrDropped();
        inTheOrderInWhichTheyWerePredicted();
        noSuchBranchForPlace();
        noSuchBranchForState();
        noSuchBranchForPredicted();
        whichIs0To3();
        flushNone();
        flushAll();
        flushOne();
        manyIsNegative();
        manyIsGreaterThanTheNumberInFlight();
        historyAheadOfTheOldestOneOfThem();
        howManyAreInFlight();
        Script.end(FlightEdgesTest.class);
    }

    private static String predictions(int many, int firstPlace) {
        StringBuilder calls = new StringBuilder();
        for (int i = 0; i < many; i++) {
            calls.append("predict(").append(firstPlace + i).append(") = false;");
        }
        return calls.toString();
    }

    private static String indexCalls(String before, String after, int inFlight) {
        StringBuilder calls = new StringBuilder();
        for (int index : new int[] {-1, inFlight, inFlight + 1, 16, -16, 256, Integer.MIN_VALUE, Integer.MAX_VALUE}) {
            if (index < 0 || index >= inFlight) {
                calls.append(before).append(index).append(after).append(NO_SUCH);
            }
        }
        return calls.toString();
    }

    private static void placeIs0To65535() {
        Script.run("A branch is given by its place, 0 to 65535", "predict(0) = false; place(0) = 0;"
                + "predict(65535) = false; place(1) = 65535; predict(32768) = false; place(2) = 32768");
        for (int place : NO_PLACES) {
            String call = "predict(" + place + ")" + BAD_ARGUMENT;
            Script.run("predict: if place is not 0 to 65535", call + "train(9, true);" + predictions(5, 1) + call
                    + "inFlight() = 5");
        }
    }

    private static void placeIs0To65535ForTrain() {
        Script.run("train: place is 0 to 65535", "setSizes(8, 8, 0); train(0, true) = false; counter(0, 0) = 2;"
                + "train(65535, true) = false; counter(0, 255) = 2; counter(1, 255) = 2; commits() = 2");
        for (int place : NO_PLACES) {
            Script.run("train: if place is not 0 to 65535", "train(" + place + ", true)" + BAD_ARGUMENT
                    + "train(1, true); train(" + place + ", false)" + BAD_ARGUMENT + "commits() = 1; predict(1);"
                    + "train(" + place + ", true)" + BAD_ARGUMENT);
        }
    }

    private static void atMost16() {
        Script.run("if 16 branches are in flight", predictions(15, 0) + "inFlight() = 15; predict(15) = false;"
                + "inFlight() = 16; predict(16)" + BAD_STATE + "predict(0)" + BAD_STATE + "predict(65535)" + BAD_STATE
                + "inFlight() = 16; place(15) = 15");
        Script.run("16 that are resolved are in flight, too", predictions(16, 0) + "resolve(0, false) = -1;"
                + "resolve(15, true) = 0; predict(1)" + BAD_STATE);
    }

    private static void atMost16BehindAnyNumberOfCommits() {
        for (int commits = 0; commits <= 17; commits++) {
            StringBuilder calls = new StringBuilder("train(500, false);".repeat(commits) + predictions(16, 100));
            for (int i = 0; i < 16; i++) {
                calls.append("place(").append(i).append(") = ").append(100 + i).append(";");
            }
            Script.run("at most 16 can be in flight, behind " + commits + " commits", calls + "predict(1)" + BAD_STATE
                    + "place(16)" + NO_SUCH + "state(15) = 0; predicted(15, 3) = false; resolve(15, true) = 0;"
                    + "resolve(16, true)" + NO_SUCH + "flush(16) = 0; drops() = 16");
        }
    }

    private static void placeIsNamedAheadOfSixteen() {
        for (int place : NO_PLACES) {
            Script.run("If several exceptions apply, the one that is named first is thrown: predict",
                    predictions(16, 0) + "predict(" + place + ")" + BAD_ARGUMENT + "predict(1)" + BAD_STATE);
        }
    }

    private static void thereIsRoomAgain() {
        String full = predictions(16, 0) + "predict(1)" + BAD_STATE;
        Script.run("room behind a commit", full + "resolve(0, false) = -1; predict(1)" + BAD_STATE
                + "commit() = false; inFlight() = 15; predict(99) = false; place(15) = 99; predict(1)" + BAD_STATE);
        Script.run("room behind a flush", full + "flush(1) = 15; predict(99) = false; place(15) = 99; predict(1)" + BAD_STATE);
        Script.run("room behind a wrong one", full + "resolve(14, true) = 1; predict(99) = false; place(15) = 99;"
                + "predict(1)" + BAD_STATE);
        Script.run("room behind setSizes", full + "setSizes(4, 4, 4) = false;" + full);
        Script.run("no room behind flush(0)", full + "flush(0) = 16; predict(1)" + BAD_STATE);
    }

    private static void untilTheyAreCommittedOrDropped() {
        Script.run("in flight until they are committed or dropped", predictions(4, 0) + "resolve(0, false) = -1;"
                + "resolve(1, false) = -1; inFlight() = 4; resolve(2, true) = 1; inFlight() = 3; commit() = false;"
                + "inFlight() = 2; commit() = false; inFlight() = 1; flush(1) = 0; inFlight() = 0");
    }

    private static void inTheOrderInWhichTheyWerePredicted() {
        Script.run("in the order in which they were predicted, with indices from 0, the oldest first",
                "predict(9) = false; predict(3) = false; predict(65535) = false; predict(3) = false; place(0) = 9;"
                + "place(1) = 3; place(2) = 65535; place(3) = 3; resolve(0, false) = -1; commit() = false; place(0) = 3;"
                + "place(1) = 65535; place(2) = 3; place(3)" + NO_SUCH + "predict(0) = false; place(3) = 0");
    }

    private static void noSuchBranchForPlace() {
        for (int many = 0; many <= 16; many++) {
            Script.run("place: if there is no such branch in flight", predictions(many, 0)
                    + indexCalls("place(", ")", many) + (many == 0 ? "" : "place(" + (many - 1) + ") = " + (many - 1)));
        }
        Script.run("place: a dropped or committed branch is none", predictions(3, 0) + "flush(1) = 2; place(2)" + NO_SUCH
                + "resolve(0, true) = 1; place(1)" + NO_SUCH + "commit() = true; place(0)" + NO_SUCH);
    }

    private static void noSuchBranchForState() {
        for (int many = 0; many <= 16; many++) {
            Script.run("state: if there is no such branch in flight", predictions(many, 0)
                    + indexCalls("state(", ")", many) + (many == 0 ? "" : "state(" + (many - 1) + ") = 0"));
        }
        Script.run("state: a dropped or committed branch is none", predictions(3, 0) + "flush(1) = 2; state(2)" + NO_SUCH
                + "resolve(0, true) = 1; state(1)" + NO_SUCH + "state(0) = 2; commit() = true; state(0)" + NO_SUCH);
        Script.run("0 if it is not resolved, 1 if its prediction was right, 2 if it is wrong", predictions(16, 0)
                + "state(0) = 0; state(15) = 0; resolve(15, true) = 0; state(15) = 2; resolve(0, false) = -1;"
                + "state(0) = 1; state(14) = 0; resolve(14, false) = -1; state(14) = 1; state(15) = 2");
    }

    private static void noSuchBranchForPredicted() {
        for (int many = 0; many <= 16; many++) {
            StringBuilder calls = new StringBuilder(predictions(many, 0));
            for (int which = -1; which <= 4; which++) {
                calls.append(indexCalls("predicted(", ", " + which + ")", many));
            }
            Script.run("predicted: if there is no such branch in flight", calls
                    + (many == 0 ? "" : "predicted(" + (many - 1) + ", 3) = false"));
        }
    }

    private static void whichIs0To3() {
        Script.run("predicted: or which is not 0 to 3", predictions(16, 0) + "predicted(0, 0) = false;"
                + "predicted(15, 3) = false; predicted(0, -1)" + NO_SUCH + "predicted(0, 4)" + NO_SUCH
                + "predicted(15, -1)" + NO_SUCH + "predicted(15, 4)" + NO_SUCH + "predicted(0, 256)" + NO_SUCH
                + "predicted(0, -2147483648)" + NO_SUCH + "predicted(0, 2147483647)" + NO_SUCH);
    }

    private static void flushNone() {
        Script.run("If there are some: of none the history stays", "flush(0) = 0; history() = 0; train(5, true);"
                + "history() = 1; flush(0) = 0; history() = 1; predict(1) = false; history() = 2; flush(0) = 1;"
                + "history() = 2; drops() = 0; resolve(0, true) = 0; history() = 3; flush(0) = 1; history() = 3; state(0) = 2");
        Script.run("flush(0) of sixteen", predictions(16, 0) + "flush(0) = 16; place(15) = 15; drops() = 0");
    }

    private static void flushAll() {
        for (int many = 1; many <= 16; many++) {
            Script.run("Drops the youngest branches in flight: all of them", "setSizes(8, 8, 4);"
                    + "train(5, true); train(6, true); history() = 3;"
                    + predictions(many, 128) + "flush(" + many + ") = 0; inFlight() = 0; history() = 3; drops() = " + many
                    + "; place(0)" + NO_SUCH + "commit()" + BAD_STATE + "flush(0) = 0; train(7, true) = false");
        }
    }

    private static void flushOne() {
        Script.run("Drops the youngest branches in flight: one", predictions(16, 0) + "flush(1) = 15; place(14) = 14;"
                + "place(15)" + NO_SUCH + "drops() = 1; flush(14) = 1; place(0) = 0; drops() = 15");
        Script.run("resolved ones, too", predictions(3, 0) + "resolve(2, true) = 0; resolve(1, false) = -1; flush(2) = 1;"
                + "drops() = 2; state(0) = 0; commits() = 0; counter(0, 2) = 1");
    }

    private static void manyIsNegative() {
        for (int many : new int[] {0, 1, 16}) {
            Script.run("flush: if many is negative", predictions(many, 0) + "flush(-1)" + BAD_ARGUMENT + "flush(-16)" + BAD_ARGUMENT
                    + "flush(-2147483648)" + BAD_ARGUMENT + "inFlight() = " + many);
        }
    }

    private static void manyIsGreaterThanTheNumberInFlight() {
        for (int many = 0; many <= 16; many++) {
            Script.run("flush: or greater than the number of branches in flight", predictions(many, 0)
                    + "flush(" + (many + 1) + ")" + BAD_ARGUMENT + "flush(17)" + BAD_ARGUMENT + "flush(256)" + BAD_ARGUMENT
                    + "flush(2147483647)" + BAD_ARGUMENT + "inFlight() = " + many + "; flush(" + many + ") = 0");
        }
    }

    /** Place 5 is predicted as taken, so every history ahead of the next branch is another one. */
    private static void historyAheadOfTheOldestOneOfThem() {
        String taken = "setSizes(4, 8, 8); train(5, true); train(5, true); history() = 3; predict(5) = true;"
                + "history() = 7; predict(6) = false; history() = 14; predict(5) = true; history() = 29;";
        String title = "the history becomes what it was ahead of the prediction of the oldest one of them";
        Script.run(title, taken + "flush(1) = 2; history() = 14");
        Script.run(title, taken + "flush(2) = 1; history() = 7");
        Script.run(title, taken + "flush(3) = 0; history() = 3");
        Script.run(title + ", behind a wrong one", taken + "resolve(1, true) = 1; history() = 15; predict(6) = false;"
                + "history() = 30; flush(1) = 2; history() = 15; flush(1) = 1; history() = 7");
        Script.run(title + ", in a full history", "train(5, true);".repeat(4) + "history() = 15;"
                + "predict(6) = false;".repeat(16) + "history() = 0; flush(13) = 3; history() = 8; flush(2) = 1;"
                + "history() = 14; flush(1) = 0; history() = 15");
    }

    private static void howManyAreInFlight() {
        for (int many = 0; many <= 16; many++) {
            Script.run("Returns how many branches are in flight", predictions(many, 0) + "inFlight() = " + many);
        }
    }
}
