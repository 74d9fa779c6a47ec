/**
 * The edges of "Loops" in the document's description, of the fourth step of committing, and of
 * promise 14. Each method is for one sentence, which its title repeats.
 *
 * <p>With setSizes(8, 8, 0) places 0 to 255 do not share a counter, and both predictions agree.
 */
public final class LoopEdgesTest {
    private static final String NO_SUCH = " = throws IndexOutOfBoundsException;";
    private static final String APART = "setSizes(8, 8, 0);";

    public static void main(String[] args) {
        numbersAre0To7();
        whatIs0To4();
        aNumberIsFree();
        upTo8Entries();
        trustIsAtMost3();
        tripIsNot0AndEqualToItsCount();
        tripBecomesItsCount();
        countBecomes0();
        countIsGreaterThan1000();
        anEntryIsMadeByAWrongOneThatWasNotTaken();
        noSecondEntryForAPlace();
        theSmallestFreeNumber();
        theLeastTrust();
        theReplacedEntryIsGone();
        presumedCountWithNothingInFlight();
        presumedCountWithSixteenInFlight();
        presumedCountOfItsPlaceAlone();
        presumedCountAsItWasResolved();
        presumedCountAsItWasPredicted();
        Script.end(LoopEdgesTest.class);
    }

    private static String train(int many, int place, boolean isTaken) {
        return ("train(" + place + ", " + isTaken + ");").repeat(many);
    }

    /** Taken this often, then once not. */
    private static String turn(int taken, int place) {
        return train(taken, place, true) + train(1, place, false);
    }

    /** For a place that was not seen yet. */
    private static String entry(int place, int trust) {
        return turn(1, place) + (trust == 0 ? "" : turn(1, place).repeat(trust + 1));
    }

    private static String is(int number, int place, int count, int trip, int trust) {
        String loop = "loop(" + number + ", ";
        return loop + "0) = " + place + ";" + loop + "1) = " + count + ";" + loop + "2) = " + trip + ";"
                + loop + "3) = " + trust + ";";
    }

    private static void numbersAre0To7() {
        for (String before : new String[] {"", APART + entry(7, 0), APART + eight(0)}) {
            Script.run("loop: if number is not 0 to 7", before + "loop(0, 0); loop(7, 0); loop(-1, 0)" + NO_SUCH
                    + "loop(8, 0)" + NO_SUCH + "loop(-1, 4)" + NO_SUCH + "loop(8, 4)" + NO_SUCH + "loop(256, 1)" + NO_SUCH
                    + "loop(2147483647, 2)" + NO_SUCH + "loop(-2147483648, 3)" + NO_SUCH + "loop(-1, -1)" + NO_SUCH
                    + "loop(8, 5)" + NO_SUCH);
        }
    }

    private static void whatIs0To4() {
        for (String before : new String[] {"", APART + entry(7, 0), APART + eight(0)}) {
            Script.run("loop: or what is not 0 to 4", before + "loop(0, 0); loop(0, 4); loop(0, -1)" + NO_SUCH
                    + "loop(0, 5)" + NO_SUCH + "loop(7, -1)" + NO_SUCH + "loop(7, 5)" + NO_SUCH + "loop(0, 256)" + NO_SUCH
                    + "loop(0, 2147483647)" + NO_SUCH + "loop(7, -2147483648)" + NO_SUCH);
        }
    }

    private static void aNumberIsFree() {
        StringBuilder calls = new StringBuilder();
        for (int number = 0; number < 8; number++) {
            for (int what = 0; what < 5; what++) {
                calls.append("loop(").append(number).append(", ").append(what).append(") = -1;");
            }
        }
        Script.run("-1 if there is no entry with this number", calls.toString());
        Script.run("-1 if there is none, while its place would be in flight", "predict(0); predict(65535);" + calls);
        Script.run("-1 if there is none any more", APART + entry(7, 3) + "setSizes(4, 4, 4);" + calls);
        Script.run("-1 for the other numbers", APART + entry(7, 0) + is(0, 7, 0, 0, 0)
                + calls.toString().replaceAll("loop\\(0, \\d\\) = -1;", ""));
    }

    /** Places 0 to 7 with the numbers 0 to 7. */
    private static String eight(int... trusts) {
        StringBuilder calls = new StringBuilder();
        for (int place = 0; place < 8; place++) {
            calls.append(entry(place, trusts[place % trusts.length]));
        }
        return calls.toString();
    }

    private static void upTo8Entries() {
        StringBuilder calls = new StringBuilder(APART);
        int[] places = {65535, 0, 1, 2, 3, 4, 5, 6};
        for (int number = 0; number < 8; number++) {
            calls.append("loop(").append(number).append(", 0) = -1;");
            calls.append(entry(places[number], 0)).append(is(number, places[number], 0, 0, 0));
        }
        for (int number = 0; number < 8; number++) {
            calls.append(is(number, places[number], 0, 0, 0));
        }
        Script.run("There are up to 8 loop entries, with numbers from 0 to 7", calls.toString());
        Script.run("a ninth one takes the place of one of them", calls + entry(100, 0) + is(0, 100, 0, 0, 0)
                + is(1, 0, 0, 0, 0) + is(7, 6, 0, 0, 0) + "loop(8, 0)" + NO_SUCH);
    }

    private static void trustIsAtMost3() {
        StringBuilder calls = new StringBuilder(APART + turn(2, 7) + is(0, 7, 0, 0, 0) + turn(2, 7) + is(0, 7, 0, 2, 0));
        for (int trust = 1; trust <= 6; trust++) {
            calls.append(turn(2, 7)).append(is(0, 7, 0, 2, Math.min(trust, 3)));
        }
        Script.run("its trust increases by 1 (at most 3)", calls.toString());
    }

    private static void tripIsNot0AndEqualToItsCount() {
        Script.run("if its trip is not 0", APART + turn(1, 7) + is(0, 7, 0, 0, 0)
                + (train(1, 7, false) + is(0, 7, 0, 0, 0)).repeat(4));
        Script.run("equal to its count: the trip 1", APART + turn(1, 7) + turn(1, 7) + is(0, 7, 0, 1, 0)
                + turn(1, 7) + is(0, 7, 0, 1, 1));
        Script.run("equal to its count: it was 0 again", APART + turn(1, 7) + turn(1, 7) + train(1, 7, false)
                + is(0, 7, 0, 0, 0) + train(1, 7, false) + is(0, 7, 0, 0, 0) + turn(1, 7) + is(0, 7, 0, 1, 0));
    }

    private static void tripBecomesItsCount() {
        String title = "if not, its trip becomes its count and its trust 0";
        for (int trust = 0; trust <= 3; trust++) {
            String before = APART + turn(2, 7).repeat(2 + trust) + is(0, 7, 0, 2, trust);
            Script.run(title + ": one too few", before + turn(1, 7) + is(0, 7, 0, 1, 0));
            Script.run(title + ": one too many", before + turn(3, 7) + is(0, 7, 0, 3, 0));
            Script.run(title + ": none", before + turn(0, 7) + is(0, 7, 0, 0, 0));
            Script.run(title + ": as many", before + turn(2, 7) + is(0, 7, 0, 2, Math.min(3, trust + 1)));
        }
    }

    private static void countBecomes0() {
        Script.run("in both cases its count becomes 0", APART + turn(2, 7) + train(2, 7, true) + is(0, 7, 2, 0, 0)
                + train(1, 7, false) + is(0, 7, 0, 2, 0) + train(2, 7, true) + is(0, 7, 2, 2, 0) + train(1, 7, false)
                + is(0, 7, 0, 2, 1) + train(1, 7, true) + is(0, 7, 1, 2, 1));
    }

    /** More than the 512 calls that the document speaks of, but there is no shorter way. */
    private static void countIsGreaterThan1000() {
        BranchPredictor x = Script.run("loops", APART + entry(3, 0) + entry(7, 0) + entry(9, 1));
        for (int i = 0; i < 1000; i++) {
            x.train(7, true);
        }
        Script.go(x, "the entry stays if the count is 1000", is(1, 7, 1000, 0, 0));
        Script.go(x, "the entry is removed if the count is greater than 1000 then", train(1, 7, true)
                + "loop(1, 0) = -1; loop(1, 1) = -1; loop(1, 2) = -1; loop(1, 3) = -1; loop(1, 4) = -1;"
                + is(0, 3, 0, 0, 0) + is(2, 9, 0, 1, 1));
        Script.go(x, "the smallest free number is between two others", train(1, 7, true) + "loop(1, 0) = -1;"
                + entry(20, 0) + is(1, 20, 0, 0, 0) + "loop(3, 0) = -1");
        for (int i = 0; i < 1001; i++) {
            x.train(3, true);
        }
        Script.go(x, "a removed one is made again", "loop(0, 0) = -1; train(3, false) = false;" + is(0, 3, 0, 0, 0));
    }

    private static void anEntryIsMadeByAWrongOneThatWasNotTaken() {
        String title = "If there is no such entry, o is \"not taken\", and the branch was wrong";
        Script.run(title + ": it was", APART + "train(7, true) = false; train(7, false) = false;" + is(0, 7, 0, 0, 0));
        Script.run(title + ": it was right", APART + "train(7, false) = true; loop(0, 0) = -1");
        Script.run(title + ": it was taken and wrong", APART + "train(7, true) = false; loop(0, 0) = -1");
        Script.run(title + ": it was taken and right", APART + "train(7, true); train(7, true) = true; loop(0, 0) = -1");
        Script.run(title + ": the choice was right, the plain prediction was not", "setSizes(2, 8, 0);"
                + train(3, 4, true) + "train(0, false) = false;" + is(0, 0, 0, 0, 0) + "train(8, false) = true;"
                + "misses(0) = 3; loop(1, 0) = -1");
        for (int place : new int[] {0, 65535}) {
            Script.run(title + ": the place " + place, APART + turn(1, place) + is(0, place, 0, 0, 0));
        }
        Script.run(title + ": only when it is committed", APART + train(1, 7, true) + "predict(7) = true;"
                + "resolve(0, false) = 0; loop(0, 0) = -1; flush(1) = 0; loop(0, 0) = -1; predict(7) = true;"
                + "resolve(0, false) = 0; commit() = true;" + is(0, 7, 0, 0, 0));
    }

    private static void noSecondEntryForAPlace() {
        Script.run("If there is a loop entry with the place b, none is made", APART + turn(2, 7).repeat(3)
                + "loop(0, 0) = 7; loop(1, 0) = -1; train(7, true); train(7, false); loop(1, 0) = -1");
    }

    private static void theSmallestFreeNumber() {
        Script.run("with the smallest free number", APART + entry(9, 3) + entry(3, 0) + entry(65535, 2)
                + is(0, 9, 0, 1, 3) + is(1, 3, 0, 0, 0) + is(2, 65535, 0, 1, 2) + "loop(3, 0) = -1;" + entry(4, 0)
                + is(3, 4, 0, 0, 0) + is(1, 3, 0, 0, 0));
    }

    private static void theLeastTrust() {
        int[][] trusts = {{0, 0, 0, 0, 0, 0, 0, 0}, {3, 3, 3, 3, 3, 3, 3, 3}, {3, 3, 3, 3, 3, 3, 3, 2},
            {1, 1, 1, 1, 1, 1, 1, 0}, {1, 0, 1, 0, 1, 0, 1, 0}, {2, 1, 1, 3, 1, 2, 3, 3}, {3, 2, 3, 2, 3, 2, 3, 2},
            {1, 2, 3, 1, 2, 3, 1, 2}, {3, 3, 2, 2, 1, 1, 0, 0}, {2, 2, 2, 2, 1, 2, 2, 2}};
        int[] due = {0, 0, 7, 7, 1, 1, 1, 0, 6, 4};
        for (int i = 0; i < trusts.length; i++) {
            StringBuilder calls = new StringBuilder(APART + eight(trusts[i]));
            calls.append(stand(trusts[i], -1)).append(entry(20, 0)).append(stand(trusts[i], due[i]));
            Script.run("in place of the entry with the least trust (of several, the one with the smallest number)",
                    calls.toString());
        }
    }

    private static String stand(int[] trusts, int replaced) {
        StringBuilder calls = new StringBuilder();
        for (int i = 0; i < 8; i++) {
            calls.append(i == replaced ? is(i, 20, 0, 0, 0) : is(i, i, 0, trusts[i] == 0 ? 0 : 1, trusts[i]));
        }
        return calls.toString();
    }

    private static void theReplacedEntryIsGone() {
        Script.run("an entry with count 0, trip 0 and trust 0, in place of another", APART + eight(1) + train(1, 0, true)
                + is(0, 0, 1, 1, 1) + entry(20, 0) + is(0, 20, 0, 0, 0) + "train(0, true);" + is(0, 20, 0, 0, 0)
                + "train(0, false) = false;" + is(0, 0, 0, 0, 0) + is(1, 1, 0, 1, 1));
    }

    private static void presumedCountWithNothingInFlight() {
        Script.run("The presumed count is its count at first", APART + entry(7, 0) + "loop(0, 4) = 0;" + train(3, 7, true)
                + "loop(0, 1) = 3; loop(0, 4) = 3; predict(7) = true; loop(0, 4) = 4; flush(1) = 0; loop(0, 4) = 3");
    }

    private static void presumedCountWithSixteenInFlight() {
        Script.run("for each branch in flight with its place, all 16", APART + entry(7, 0) + train(3, 7, true)
                + "predict(7) = true;".repeat(16) + "loop(0, 1) = 3; loop(0, 4) = 19; flush(1) = 15; loop(0, 4) = 18;"
                + "resolve(14, false) = 0; loop(0, 4) = 0; predict(7) = true; loop(0, 4) = 1; resolve(0, true) = -1;"
                + "commit() = false; loop(0, 1) = 4; loop(0, 4) = 1");
        Script.run("for each branch in flight, from the oldest on", APART + entry(7, 0) + train(3, 7, true)
                + "predict(7) = true;".repeat(5) + "loop(0, 4) = 8; resolve(2, false) = 2; loop(0, 4) = 0;"
                + "predict(7) = true;".repeat(13) + "loop(0, 4) = 13; predict(7) = throws IllegalStateException; loop(0, 4) = 13");
    }

    private static void presumedCountOfItsPlaceAlone() {
        Script.run("with its place", APART + entry(7, 0) + train(2, 7, true) + "predict(6) = false; predict(8) = false;"
                + "predict(263) = true; predict(65535) = false; predict(0) = false; loop(0, 4) = 2; predict(7) = true;"
                + "loop(0, 4) = 3; predict(6) = false; loop(0, 4) = 3");
        Script.run("each entry has its own", APART + entry(7, 0) + entry(0, 0) + train(2, 7, true) + train(3, 0, true)
                + "predict(7) = true; predict(0) = true; predict(7) = true; loop(0, 4) = 4; loop(1, 4) = 4;"
                + "resolve(1, false) = 1; loop(0, 4) = 3; loop(1, 4) = 0");
    }

    private static void presumedCountAsItWasResolved() {
        String start = APART + entry(7, 0) + train(2, 7, true);
        Script.run("taken as it was resolved: right", start + "predict(7) = true; resolve(0, true) = -1; loop(0, 4) = 3");
        Script.run("not taken as it was resolved: wrong", start + "predict(7) = true; resolve(0, false) = 0; loop(0, 4) = 0");
        String counterSaysNo = APART + entry(7, 0) + train(1, 7, false) + train(1, 7, true) + "loop(0, 1) = 1;";
        Script.run("taken as it was resolved: wrong", counterSaysNo + "predict(7) = false; resolve(0, true) = 0; loop(0, 4) = 2");
        Script.run("not taken as it was resolved: right", counterSaysNo + "predict(7) = false; resolve(0, false) = -1; loop(0, 4) = 0");
    }

    private static void presumedCountAsItWasPredicted() {
        Script.run("taken as it was predicted", APART + entry(7, 0) + train(2, 7, true) + "predict(7) = true; loop(0, 4) = 3");
        Script.run("otherwise it becomes 0", APART + entry(7, 0) + train(1, 7, false) + train(1, 7, true)
                + "loop(0, 4) = 1; predict(7) = false; loop(0, 4) = 0; predict(7) = false; loop(0, 4) = 0; loop(0, 1) = 1");
    }
}
