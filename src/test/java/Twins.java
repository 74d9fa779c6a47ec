import java.util.List;

/**
 * Two objects that must be alike, also in what cannot be seen at once (whose outcome a counter
 * learned last, what the history was ahead of a branch): both go on with the same calls, and
 * every answer and all that the face tells must be the same.
 */
final class Twins {
    /** Calls that fill and empty the flight, meet, repair the history and make loop entries. */
    static final List<String> LONG_RUN = List.of((
            "train(7, true); train(7, true); train(7, false); train(23, false); train(7, true);"
            + "predict(7); predict(23); predict(39); resolve(1, true); resolve(0, false); predict(65535);"
            + "flush(1); commit(); train(7, true); train(7, false); train(23, true); train(23, false);"
            + "predict(0); predict(1); predict(2); predict(3); predict(4); predict(5); predict(6); predict(7);"
            + "predict(8); predict(9); predict(10); predict(11); predict(12); predict(13); predict(14);"
            + "predict(15); resolve(15, true); resolve(0, false); commit(); predict(16); resolve(3, true);"
            + "resolve(0, true); commit(); train(16, true); train(32, false); train(48, true); predict(0);"
            + "predict(16); flush(2); train(0, true); train(0, true); train(0, false); train(0, true);"
            + "train(0, false); train(0, true); train(0, false); train(0, true); train(0, false);"
            + "predict(0); predict(0); predict(0); resolve(0, true); resolve(1, true); commit(); flush(1); commit()")
            .split("; *"));

    private Twins() {
    }

    static void goOnAlike(String title, BranchPredictor one, BranchPredictor other) {
        Script.due(title + ": twins", Snapshot.of(one), Snapshot.of(other));
        for (String call : LONG_RUN) {
            String told = title + ": twins behind " + call;
            Script.due(told, Script.answer(one, call), Script.answer(other, call));
            Script.due(told, Snapshot.of(one), Snapshot.of(other));
        }
    }
}
