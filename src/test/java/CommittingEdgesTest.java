/**
 * The edges of "Committing the oldest branch in flight" but for its fourth step (see LoopEdgesTest),
 * and of promises 5, 6 and 18. Each method is for one sentence, which its title repeats.
 *
 * <p>With setSizes(2, 8, 0) places 0, 4, 8, .. share the plain counter 0 and the choice counter 0,
 * and have global counters of their own.
 */
public final class CommittingEdgesTest {
    private static final String BAD_STATE = " = throws IllegalStateException;";
    private static final String BAD_ARGUMENT = " = throws IllegalArgumentException;";
    private static final String NO_SUCH = " = throws IndexOutOfBoundsException;";
    private static final String SHARED_PLAIN = "setSizes(2, 8, 0);";
    private static final String NO_HISTORY = "setSizes(4, 4, 0);";

    public static void main(String[] args) {
        noBranchIsInFlight();
        theOldestOneIsNotResolved();
        sixteenAreCommitted();
        whetherItWasWrong();
        aBranchIsInFlight();
        placeIsNamedAheadOfABranchInFlight();
        asIfNothingElseWasInFlight();
        theChoiceCounterStaysFrom0To3();
        theChoiceCounterStaysIfBothWereTheSame();
        whatThePredictionsWere();
        bothCountersStayFrom0To3();
        theCountersThatWereLookedAt();
        noLatestBranchIsNoMeeting();
        theSamePlaceIsNoMeeting();
        changedOrConfirmed();
        byBeingCommitted();
        harmfulIfTheCounterDoesNotSayTheOutcome();
        theCounterAtTheCommitTellsHarm();
        theCounterAtTheCommitTellsHarmInTheGlobalTable();
        notHarmfulIfTheCounterSaysTheOutcomeByThen();
        eachTableHasItsOwnMeetings();
        tableIsNot0Or1();
        notInFlightAnyMore();
        theHistoryStays();
        Script.end(CommittingEdgesTest.class);
    }

    private static String train(int many, int place, boolean isTaken) {
        return ("train(" + place + ", " + isTaken + ");").repeat(many);
    }

    private static void noBranchIsInFlight() {
        Script.run("commit: if no branch is in flight", "commit()" + BAD_STATE + "predict(1); flush(1) = 0;"
                + "commit()" + BAD_STATE + "train(1, true); commit()" + BAD_STATE + "predict(2); resolve(0, true) = 0;"
                + "commit() = true; commit()" + BAD_STATE + "commits() = 2; setSizes(4, 4, 4); commit()" + BAD_STATE);
    }

    private static void theOldestOneIsNotResolved() {
        StringBuilder calls = new StringBuilder("predict(0) = false;".repeat(16) + "commit()" + BAD_STATE);
        for (int i = 1; i < 16; i++) {
            calls.append("resolve(").append(i).append(", false) = -1;");
        }
        Script.run("commit: or the oldest one is not resolved", calls + "commit()" + BAD_STATE + "inFlight() = 16;"
                + "resolve(0, false) = -1; commit() = false; inFlight() = 15");
        Script.run("the next oldest one is not resolved", "predict(1); predict(2); resolve(0, false) = -1;"
                + "commit() = false; commit()" + BAD_STATE + "resolve(0, true) = 0; commit() = true");
    }

    private static void sixteenAreCommitted() {
        StringBuilder calls = new StringBuilder("predict(0) = false;".repeat(16));
        for (int i = 0; i < 15; i++) {
            calls.append("resolve(").append(i).append(", false) = -1;");
        }
        Script.run("all 16 are committed, one by one", calls + "resolve(15, true) = 0;" + "commit() = false;".repeat(15)
                + "inFlight() = 1; commit() = true; inFlight() = 0; commits() = 16; commit()" + BAD_STATE);
    }

    private static void whetherItWasWrong() {
        Script.run("commit: whether it was wrong", "predict(1) = false; resolve(0, false) = -1; commit() = false;"
                + "predict(2) = false; resolve(0, true) = 0; commit() = true;" + train(2, 3, true)
                + "predict(3) = true; resolve(0, true) = -1; commit() = false; predict(3) = true; resolve(0, false) = 0;"
                + "commit() = true");
    }

    private static void aBranchIsInFlight() {
        for (int many = 1; many <= 16; many++) {
            Script.run("train: if a branch is in flight", "predict(1) = false;".repeat(many) + "train(2, true)" + BAD_STATE
                    + "train(0, false)" + BAD_STATE + "train(65535, true)" + BAD_STATE + "resolve(0, false) = -1;"
                    + "train(2, true)" + BAD_STATE + "commits() = 0; flush(" + many + ") = 0; train(2, true) = false");
        }
    }

    private static void placeIsNamedAheadOfABranchInFlight() {
        for (int place : new int[] {-1, 65536, Integer.MIN_VALUE, Integer.MAX_VALUE}) {
            Script.run("If several exceptions apply, the one that is named first is thrown: train", "predict(1);"
                    + "train(" + place + ", true)" + BAD_ARGUMENT + "train(1, true)" + BAD_STATE
                    + "predict(2) = false;".repeat(15) + "train(" + place + ", true)" + BAD_ARGUMENT);
        }
    }

    private static void asIfNothingElseWasInFlight() {
        Script.run("train: whether the prediction was right", "train(1, false) = true; train(2, true) = false;"
                + "train(2, true) = true; train(2, false) = false; inFlight() = 0; drops() = 0; commits() = 4; place(0)" + NO_SUCH);
    }

    private static void theChoiceCounterStaysFrom0To3() {
        String start = SHARED_PLAIN + train(3, 4, true) + "counter(2, 0) = 1;";
        Script.run("the choice counter stays at 0", start + "train(0, true) = true; counter(2, 0) = 0;"
                + "train(8, true) = true; counter(2, 0) = 0; train(12, true) = true; counter(2, 0) = 0;"
                + "train(16, false) = false; counter(2, 0) = 1");
        Script.run("the choice counter stays at 3", start + "train(0, false) = false; counter(2, 0) = 2;"
                + "train(8, false) = true; counter(2, 0) = 3; train(4, true) = true; counter(2, 0) = 3;"
                + "train(12, false) = true; counter(2, 0) = 3; train(4, false) = false; counter(2, 0) = 2");
    }

    private static void theChoiceCounterStaysIfBothWereTheSame() {
        Script.run("If the plain and the global prediction of the branch were different", NO_HISTORY
                + train(5, 1, true) + train(5, 1, false) + train(5, 2, false) + "counter(2, 1) = 1; counter(2, 2) = 1");
    }

    /** When 8 is committed, the plain counter does not say any more what it said for 8. */
    private static void whatThePredictionsWere() {
        Script.run("the plain and the global prediction of the branch were different", SHARED_PLAIN + train(3, 4, true)
                + train(1, 0, false) + "counter(2, 0) = 2; counter(0, 0) = 2; predict(0) = false; predict(8) = false;"
                + "predicted(1, 0) = true; predicted(1, 1) = false; resolve(0, false) = -1; resolve(1, true) = 0;"
                + "commit() = false; counter(2, 0) = 3; counter(0, 0) = 1; predicted(0, 0) = true; misses(0) = 3;"
                + "commit() = true; counter(2, 0) = 2; misses(0) = 3");
    }

    private static void bothCountersStayFrom0To3() {
        Script.run("Counters stay from 0 to 3: at 3", NO_HISTORY + train(1, 5, true) + "counter(0, 5) = 2; counter(1, 5) = 2;"
                + train(1, 5, true) + "counter(0, 5) = 3; counter(1, 5) = 3;" + train(1, 5, true) + "counter(0, 5) = 3;"
                + "counter(1, 5) = 3;" + train(1, 5, false) + "counter(0, 5) = 2; counter(1, 5) = 2");
        Script.run("Counters stay from 0 to 3: at 0", NO_HISTORY + train(1, 5, false) + "counter(0, 5) = 0; counter(1, 5) = 0;"
                + train(1, 5, false) + "counter(0, 5) = 0; counter(1, 5) = 0;" + train(1, 5, true) + "counter(0, 5) = 1;"
                + "counter(1, 5) = 1");
        Script.run("the plain one stays at 3, the global one goes on", SHARED_PLAIN + train(2, 4, true)
                + "counter(0, 0) = 3;" + train(1, 8, true) + "counter(0, 0) = 3; counter(1, 8) = 2");
        Script.run("the global one stays at 0, the plain one goes on", "setSizes(8, 2, 0);" + train(2, 4, false)
                + "counter(1, 0) = 0;" + train(1, 8, false) + "counter(1, 0) = 0; counter(0, 8) = 0");
    }

    private static void theCountersThatWereLookedAt() {
        Script.run("the global counter that was looked at, not the one of the history at the commit",
                "predict(9) = false; resolve(0, true) = 0; history() = 1; predict(2) = false; history() = 2;"
                + "commit() = true; counter(1, 9) = 2; counter(1, 8) = 1; counter(1, 11) = 1; resolve(0, false) = -1;"
                + "history() = 2; commit() = false; counter(1, 3) = 0; counter(1, 2) = 1; counter(1, 0) = 1");
    }

    private static void noLatestBranchIsNoMeeting() {
        for (int place : new int[] {0, 16, 65535, 65520, 1}) {
            Script.run("the latest branch: there is none at first", NO_HISTORY + train(1, place, true)
                    + "meetings(0, false) = 0; meetings(0, true) = 0; meetings(1, false) = 0; meetings(1, true) = 0;"
                    + train(1, place ^ 16, true) + "meetings(0, false) = 1; meetings(1, false) = 1;"
                    + "meetings(0, true) = 0; meetings(1, true) = 0");
        }
        Script.run("there is none behind setSizes", NO_HISTORY + train(1, 1, true) + "setSizes(4, 4, 0) = false;"
                + train(1, 17, true) + "meetings(0, false) = 0; meetings(1, false) = 0;" + train(1, 1, true)
                + "meetings(0, false) = 1");
    }

    private static void theSamePlaceIsNoMeeting() {
        Script.run("had another place", NO_HISTORY + train(3, 65535, true) + train(3, 65535, false)
                + "meetings(0, false) = 0; meetings(1, false) = 0; meetings(0, true) = 0; meetings(1, true) = 0");
        Script.run("had another place: the latest one, not an older one", NO_HISTORY + train(1, 1, true)
                + train(1, 17, true) + train(1, 1, true) + train(1, 1, true) + train(1, 33, true)
                + "meetings(0, false) = 3; meetings(1, false) = 3");
        Script.run("another counter is no meeting", NO_HISTORY + train(1, 1, true) + train(1, 2, true)
                + train(1, 15, true) + train(1, 0, true) + "meetings(0, false) = 0; meetings(1, false) = 0");
    }

    private static void changedOrConfirmed() {
        Script.run("changed or confirmed: a counter that stays at 0", NO_HISTORY + train(2, 1, false) + "counter(0, 1) = 0;"
                + train(1, 17, false) + "meetings(0, false) = 1; meetings(1, false) = 1;" + train(1, 17, false)
                + "meetings(0, false) = 1; meetings(1, false) = 1;" + train(1, 1, false) + "meetings(0, false) = 2;"
                + "meetings(1, false) = 2; meetings(0, true) = 0; meetings(1, true) = 0");
        Script.run("changed or confirmed: a counter that stays at 3", NO_HISTORY + train(3, 1, true) + "counter(0, 1) = 3;"
                + train(1, 17, true) + "meetings(0, false) = 1; meetings(1, false) = 1;" + train(1, 17, true)
                + "meetings(0, false) = 1; meetings(1, false) = 1;" + train(1, 1, true) + "meetings(0, false) = 2;"
                + "meetings(1, false) = 2; meetings(0, true) = 0; meetings(1, true) = 0");
    }

    private static void byBeingCommitted() {
        String none = "meetings(0, false) = 0; meetings(1, false) = 0;";
        Script.run("by being committed: not by being predicted, resolved or dropped", NO_HISTORY + train(1, 1, true)
                + "predict(17) = true; predict(33) = true;" + none + "resolve(1, true) = -1;" + none
                + "resolve(0, false) = 1;" + none + "flush(1) = 0;" + none + train(1, 1, true) + none
                + "predict(17) = true; resolve(0, true) = -1;" + none + "commit() = false;"
                + "meetings(0, false) = 1; meetings(1, false) = 1");
        Script.run("by being committed: not by a refused call", NO_HISTORY + train(1, 1, true) + "predict(17) = true;"
                + "train(17, true)" + BAD_STATE + "commit()" + BAD_STATE + "flush(1) = 0;" + train(1, 1, true) + none);
    }

    /** The counters that place 1 leaves, and place 17 with this outcome behind it. */
    private static void harm(String before, int value, boolean isTaken, boolean isHarm) {
        Script.run("a harmful one if the counter does not say o: " + value + ", " + isTaken, NO_HISTORY + before
                + "counter(0, 1) = " + value + "; counter(1, 1) = " + value + ";" + train(1, 17, isTaken)
                + "meetings(0, false) = 1; meetings(1, false) = 1; meetings(0, true) = " + (isHarm ? 1 : 0)
                + "; meetings(1, true) = " + (isHarm ? 1 : 0));
    }

    private static void harmfulIfTheCounterDoesNotSayTheOutcome() {
        String[] before = {train(1, 1, false), train(1, 1, true) + train(1, 1, false), train(1, 1, true), train(2, 1, true)};
        for (int value = 0; value <= 3; value++) {
            harm(before[value], value, true, value < 2);
            harm(before[value], value, false, value >= 2);
        }
    }

    /** As in whatThePredictionsWere: the counter said "taken" for 8, but does not at its commit. */
    private static void theCounterAtTheCommitTellsHarm() {
        Script.run("if the counter does not say o, at the commit", SHARED_PLAIN + train(3, 4, true) + train(1, 0, false)
                + "meetings(0, false) = 1; meetings(0, true) = 1; predict(0) = false; predict(8) = false;"
                + "resolve(0, false) = -1; resolve(1, true) = 0; commit() = false; meetings(0, false) = 1;"
                + "predicted(0, 0) = true; commit() = true; meetings(0, false) = 2; meetings(0, true) = 2;"
                + "meetings(1, false) = 0");
    }

    /** Step 2 comes before step 3: what an older branch has moved counts, not what this one moves. */
    private static void theCounterAtTheCommitTellsHarmInTheGlobalTable() {
        Script.run("if the counter does not say o, at the commit, global", "setSizes(8, 2, 0);" + train(1, 4, true)
                + "predict(0) = false; predict(8) = false; predicted(1, 1) = true; resolve(0, false) = -1;"
                + "resolve(1, true) = 0; commit() = false; counter(1, 0) = 1; meetings(1, false) = 1;"
                + "meetings(1, true) = 1; predicted(0, 1) = true; commit() = true; meetings(1, false) = 2;"
                + "meetings(1, true) = 2; meetings(0, false) = 0");
    }

    private static void notHarmfulIfTheCounterSaysTheOutcomeByThen() {
        Script.run("not harmful: the counter did not say o at the prediction, but does at the commit",
                "setSizes(2, 2, 0); predict(0) = false; resolve(0, true) = 0; predict(4) = false; commit() = true;"
                + "counter(0, 0) = 2; counter(1, 0) = 2; predicted(0, 0) = false; predicted(0, 1) = false;"
                + "resolve(0, true) = 0; commit() = true; meetings(0, false) = 1; meetings(0, true) = 0;"
                + "meetings(1, false) = 1; meetings(1, true) = 0");
    }

    private static void eachTableHasItsOwnMeetings() {
        Script.run("for the plain and for the global counter: the plain one alone", SHARED_PLAIN + train(1, 0, true)
                + train(1, 4, false) + "meetings(0, false) = 1; meetings(0, true) = 1; meetings(1, false) = 0;"
                + "meetings(1, true) = 0");
        Script.run("for the plain and for the global counter: the global one alone", "setSizes(8, 2, 0);"
                + train(1, 0, true) + train(1, 4, false) + "meetings(0, false) = 0; meetings(0, true) = 0;"
                + "meetings(1, false) = 1; meetings(1, true) = 1");
        Script.run("harmful in one table alone", SHARED_PLAIN.replace("8, 0", "3, 0") + train(1, 0, true)
                + train(1, 4, true) + train(1, 4, true) + train(2, 0, false) + train(1, 12, true)
                + "counter(0, 0) = 2; meetings(0, false) = 3; meetings(1, false) = 1; meetings(0, true) = 2;"
                + "meetings(1, true) = 0");
    }

    private static void tableIsNot0Or1() {
        Script.run("meetings: if table is not 0 or 1", "train(1, true); train(17, false); meetings(0, false) = 1;"
                + "meetings(1, true) = 0; meetings(-1, false)" + NO_SUCH + "meetings(-1, true)" + NO_SUCH
                + "meetings(2, false)" + NO_SUCH + "meetings(2, true)" + NO_SUCH + "meetings(256, true)" + NO_SUCH
                + "meetings(2147483647, false)" + NO_SUCH + "meetings(-2147483648, false)" + NO_SUCH);
    }

    private static void notInFlightAnyMore() {
        Script.run("The branch is not in flight any more", "predict(1); predict(2); resolve(0, false) = -1;"
                + "commit() = false; inFlight() = 1; place(0) = 2; state(0) = 0; place(1)" + NO_SUCH
                + "resolve(0, true) = 0; commit() = true; inFlight() = 0; place(0)" + NO_SUCH + "drops() = 0");
    }

    private static void theHistoryStays() {
        Script.run("(The history stays.)", train(4, 5, true) + "history() = 15; predict(6) = false; history() = 14;"
                + "predict(5) = true; history() = 13; resolve(0, false) = -1; commit() = false; history() = 13;"
                + "resolve(0, false) = 0; history() = 12; commit() = true; history() = 12");
    }
}
