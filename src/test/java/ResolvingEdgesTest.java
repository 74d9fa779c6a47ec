/**
 * The edges of "Resolving a branch in flight" in the document's description, and of promise 4.
 * Each method is for one sentence, which its title repeats.
 */
public final class ResolvingEdgesTest {
    private static final String NO_SUCH = " = throws IndexOutOfBoundsException;";
    private static final String ALREADY = " = throws IllegalStateException;";

    public static void main(String[] args) {
        allBranchesBehindItAreDropped();
        resolvedBranchesBehindItAreDroppedToo();
        theHistoryBecomesWhatItWasAhead();
        theOutcomeIsAppendedToAFullHistory();
        rightLeavesAll();
        noSuchBranch();
        noSuchBranchAnyMore();
        resolvedAlready();
        resolvedAlreadyAndNoSuchBranch();
        Script.end(ResolvingEdgesTest.class);
    }

    private static String predictions(int many) {
        StringBuilder calls = new StringBuilder();
        for (int i = 0; i < many; i++) {
            calls.append("predict(").append(100 + i).append(") = false;");
        }
        return calls.toString();
    }

    private static void allBranchesBehindItAreDropped() {
        for (int many = 1; many <= 16; many++) {
            for (int index = 0; index < many; index++) {
                int behind = many - 1 - index;
                Script.run("then all branches in flight behind it are dropped", predictions(many)
                        + "resolve(" + index + ", true) = " + behind + "; inFlight() = " + (index + 1)
                        + "; drops() = " + behind + "; state(" + index + ") = 2; place(" + index + ") = " + (100 + index)
                        + "; place(" + (index + 1) + ")" + NO_SUCH + "place(0) = 100; commits() = 0");
            }
        }
    }

    private static void resolvedBranchesBehindItAreDroppedToo() {
        Script.run("all branches behind it, resolved or not", predictions(16) + "resolve(15, true) = 0;"
                + "resolve(14, false) = -1; resolve(12, true) = 3; drops() = 3; inFlight() = 13; resolve(3, false) = -1;"
                + "resolve(2, true) = 10; drops() = 13; resolve(0, true) = 2; drops() = 15; inFlight() = 1;"
                + "commit() = true; inFlight() = 0");
    }

    /** The history is 3 ahead of the first; all of them are predicted as not taken. */
    private static void theHistoryBecomesWhatItWasAhead() {
        String start = "setSizes(8, 8, 8); train(5, true); train(6, true); history() = 3;" + predictions(16)
                + "history() = 0;";
        for (int index = 0; index < 16; index++) {
            int ahead = (3 << index) & 255;
            Script.run("the history becomes what it was ahead of the prediction of this branch, with the outcome",
                    start + "resolve(" + index + ", true) = " + (15 - index)
                    + "; history() = " + ((2 * ahead + 1) & 255));
        }
        Script.run("ahead of an older branch, a second time", start + "resolve(9, true) = 6; history() = 1;"
                + "predict(200) = false; history() = 2; resolve(2, true) = 8; history() = 25; resolve(0, true) = 2;"
                + "history() = 7; commit() = true; history() = 7");
    }

    private static void theOutcomeIsAppendedToAFullHistory() {
        String full = "train(5, true);".repeat(4) + "history() = 15;";
        Script.run("with the outcome appended: not taken, mod 2^h", full + "predict(5) = true; history() = 15;"
                + "predict(5) = true; resolve(0, false) = 1; history() = 14");
        Script.run("with the outcome appended: taken, mod 2^h", full + "predict(6) = false; history() = 14;"
                + "predict(6) = false; history() = 12; resolve(0, true) = 1; history() = 15");
        Script.run("with h = 0", "setSizes(4, 4, 0); predict(6) = false; resolve(0, true) = 0; history() = 0");
    }

    private static void rightLeavesAll() {
        String title = "-1 if the prediction was right";
        for (int index = 0; index < 15; index++) {
            Script.run(title + ": not taken", "setSizes(8, 8, 8); train(5, true); predict(9) = false; flush(1) = 0;"
                    + "drops() = 1;" + predictions(15) + "predict(5) = true; history() = 1; resolve(" + index + ", false) = -1;"
                    + "inFlight() = 16; drops() = 1; history() = 1; state(" + index + ") = 1; state(15) = 0");
        }
        Script.run(title + ": taken", "train(5, true); train(5, true); predict(5) = true; predict(5) = true;"
                + "history() = 15; resolve(0, true) = -1; history() = 15; inFlight() = 2; resolve(1, true) = -1;"
                + "inFlight() = 2; drops() = 0; state(0) = 1; state(1) = 1");
    }

    private static void noSuchBranch() {
        for (int many = 0; many <= 16; many++) {
            StringBuilder calls = new StringBuilder(predictions(many));
            for (int index : new int[] {-1, many, many + 1, 16, 256, Integer.MIN_VALUE, Integer.MAX_VALUE}) {
                if (index < 0 || index >= many) {
                    calls.append("resolve(").append(index).append(", true)").append(NO_SUCH);
                    calls.append("resolve(").append(index).append(", false)").append(NO_SUCH);
                }
            }
            Script.run("if there is no such branch in flight", calls + "inFlight() = " + many);
        }
    }

    private static void noSuchBranchAnyMore() {
        Script.run("no such branch: it was committed", predictions(1) + "resolve(0, false) = -1; commit() = false;"
                + "resolve(0, false)" + NO_SUCH);
        Script.run("no such branch: it was flushed", predictions(2) + "flush(1) = 1; resolve(1, true)" + NO_SUCH);
        Script.run("no such branch: it was dropped", predictions(3) + "resolve(2, false) = -1; resolve(1, true) = 1;"
                + "resolve(2, true)" + NO_SUCH + "resolve(2, false)" + NO_SUCH);
        Script.run("no such branch: train leaves none", "train(1, true); resolve(0, true)" + NO_SUCH);
    }

    private static void resolvedAlready() {
        for (int index = 0; index < 16; index += 5) {
            String call = "resolve(" + index + ", ";
            Script.run("if it is resolved already: it was right", predictions(16) + call + "false) = -1;"
                    + call + "false)" + ALREADY + call + "true)" + ALREADY + "inFlight() = 16");
            Script.run("if it is resolved already: it was wrong", predictions(16) + call + "true) = " + (15 - index) + ";"
                    + call + "false)" + ALREADY + call + "true)" + ALREADY + "inFlight() = " + (index + 1));
        }
        Script.run("a new branch with this index is not resolved", predictions(2) + "resolve(1, true) = 0; flush(1) = 1;"
                + "predict(101) = false; resolve(1, false) = -1; resolve(0, false) = -1; commit() = false;"
                + "resolve(0, false)" + ALREADY + "commit() = false");
    }

    private static void resolvedAlreadyAndNoSuchBranch() {
        StringBuilder all = new StringBuilder(predictions(16));
        for (int i = 0; i < 16; i++) {
            all.append("resolve(").append(i).append(", false) = -1;");
        }
        Script.run("no such branch while all are resolved", all + "resolve(16, true)" + NO_SUCH + "resolve(-1, true)" + NO_SUCH
                + "resolve(0, true)" + ALREADY + "resolve(15, true)" + ALREADY);
    }
}
