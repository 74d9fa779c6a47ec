/** Promise 5 (commit) and 6 (train). */
public final class CommitTest {
    public static void main(String[] args) {
        committing();
        refusedCommits();
        choiceLearns();
        countersLearn();
        training();
        Script.end(CommitTest.class);
    }

    private static void committing() {
        Script.run("right", "predict(1); resolve(0, false) = -1; commit() = false; commits() = 1;"
                + "inFlight() = 0; counter(0, 1) = 0; counter(1, 1) = 0; history() = 0; drops() = 0");
        Script.run("wrong", "predict(1); resolve(0, true) = 0; commit() = true; commits() = 1;"
                + "counter(0, 1) = 2; counter(1, 1) = 2; history() = 1; loop(0, 0) = -1");
        Script.run("the oldest goes first", "predict(1); predict(2); predict(3); resolve(0, false);"
                + "resolve(1, false); commit() = false; inFlight() = 2; place(0) = 2; state(0) = 1;"
                + "place(1) = 3; state(1) = 0; commit() = false; place(0) = 3;"
                + "commit() = throws IllegalStateException");
        Script.run("the history stays", "train(5, true); predict(1); predict(2); resolve(0, false);"
                + "history() = 4; commit() = false; history() = 4");
        Script.run("the global counter that was looked at learns", "predict(1); predict(2); predict(4);"
                + "resolve(2, true) = 0; history() = 1; resolve(0, false); commit() = false;"
                + "resolve(0, false); commit() = false; predict(6); commit() = true; counter(1, 4) = 2;"
                + "counter(1, 5) = 1; counter(1, 1) = 0; counter(1, 2) = 0");
        StringBuilder calls = new StringBuilder();
        for (int i = 0; i < 40; i++) {
            calls.append("predict(9) = false; predict(10) = false; resolve(0, false) = -1; resolve(1, false) = -1;"
                    + "commit() = false; commit() = false;");
        }
        Script.run("round the ring", calls + "commits() = 80; inFlight() = 0; counter(0, 9) = 0");
    }

    private static void refusedCommits() {
        Script.run("none in flight", "commit() = throws IllegalStateException");
        Script.run("the oldest is not resolved", "predict(1); commit() = throws IllegalStateException;"
                + "predict(2); resolve(1, false) = -1; commit() = throws IllegalStateException;"
                + "resolve(0, false) = -1; commit() = false; commit() = false;"
                + "commit() = throws IllegalStateException");
    }

    private static void choiceLearns() {
        Script.run("the global one was right", "train(3, true) = false; train(3, false) = false;"
                + "counter(2, 3) = 2");
        Script.run("the plain one was right", "train(3, true) = false; train(3, true) = true; counter(2, 3) = 0;"
                + "history() = 3; train(3, true) = true; counter(2, 3) = 0");
        Script.run("they were the same", "train(3, true); counter(2, 3) = 1; train(4, false); counter(2, 4) = 1");
        Script.run("the choice counter stays at 3", "setSizes(2, 8, 8);"
                + "train(0, true) = false; counter(0, 0) = 2; train(0, false) = false; counter(2, 0) = 2;"
                + "counter(0, 0) = 1; train(0, true) = false; counter(0, 0) = 2; history() = 5;"
                + "train(0, false) = true; counter(2, 0) = 3; counter(0, 0) = 1; train(0, true) = false;"
                + "history() = 21; counter(0, 0) = 2; train(0, false) = true; counter(2, 0) = 3");
        Script.run("by what was predicted, not by what the tables say at the commit",
                "setSizes(4, 4, 0); predict(3) = false; predict(3) = false; predict(3) = false;"
                + "resolve(2, true) = 0; resolve(1, false) = -1; resolve(0, false) = -1; commit() = false;"
                + "commit() = false; commit() = true; counter(2, 3) = 1; counter(0, 3) = 1; misses(3) = 1");
    }

    private static void countersLearn() {
        Script.run("counters stay from 0 to 3", "setSizes(4, 4, 0); train(5, true) = false; counter(0, 5) = 2;"
                + "train(5, true) = true; counter(0, 5) = 3; train(5, true) = true; counter(0, 5) = 3;"
                + "counter(1, 5) = 3; train(6, false) = true; counter(0, 6) = 0; train(6, false) = true;"
                + "counter(0, 6) = 0; counter(1, 6) = 0");
        Script.run("other counters stay", "train(5, true); counter(0, 4) = 1; counter(0, 6) = 1; counter(1, 4) = 1;"
                + "counter(1, 6) = 1; counter(2, 5) = 1");
    }

    private static void training() {
        Script.run("train answers whether it was right", "train(5, true) = false; train(5, true) = true;"
                + "train(5, false) = false; commits() = 3; inFlight() = 0; misses(3) = 2; drops() = 0;"
                + "history() = 6");
        Script.run("places", "train(0, false) = true; train(65535, false) = true;"
                + "train(-1, true) = throws IllegalArgumentException;"
                + "train(65536, true) = throws IllegalArgumentException;"
                + "train(-2147483648, true) = throws IllegalArgumentException;"
                + "train(2147483647, false) = throws IllegalArgumentException");
        Script.run("a branch is in flight", "predict(1); train(1, true) = throws IllegalStateException;"
                + "train(65536, true) = throws IllegalArgumentException; resolve(0, false);"
                + "train(1, false) = throws IllegalStateException; commit(); train(1, true) = false");
        sameAsThreeCalls();
    }

    private static void sameAsThreeCalls() {
        BranchPredictor whole = new BranchPredictor();
        BranchPredictor parts = new BranchPredictor();
        for (int i = 0; i < 60; i++) {
            int place = i % 3 == 0 ? 7 : 23 + i % 2;
            boolean isTaken = i % 5 != 4;
            boolean isRight = whole.train(place, isTaken);
            boolean isPredicted = parts.predict(place);
            parts.resolve(0, isTaken);
            boolean isWrong = parts.commit();
            Script.due("train and three calls", isRight, !isWrong);
            Script.due("train and three calls, the prediction", isRight, isPredicted == isTaken);
            Script.due("train and three calls, the state", Snapshot.of(whole), Snapshot.of(parts));
        }
    }
}
