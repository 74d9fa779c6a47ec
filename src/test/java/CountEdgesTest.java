import java.math.BigDecimal;
import java.math.BigInteger;
import java.math.MathContext;
import java.util.ArrayList;
import java.util.List;

/**
 * The edges of the counts: promises 15, 16, 17, 19 and 20, and the 512 calls of "What it is". Each
 * method is for one sentence, which its title repeats.
 */
public final class CountEdgesTest {
    private static final String NO_SUCH = " = throws IndexOutOfBoundsException;";
    private static final int MOST_CALLS = 512;
    /** The trip is 2 and the trust 3 behind these calls. */
    private static final String TRUSTED_LOOP = "train(7, true); train(7, true); train(7, false);".repeat(5);

    public static void main(String[] args) {
        howManyWereCommitted();
        whichIs0To3();
        missesOfCommittedOnesAlone();
        howManyWereDropped();
        accuracyIs1IfThereAreNone();
        accuracyFrom0To1();
        accuracyIsOfThePrediction();
        accuracyIsRounded();
        digestStartsWith71AndWraps();
        digestOfFreeNumbersAndEntries();
        digestOfBranchesInFlight();
        digestOfCountedNumbers();
        the512thCall();
        Script.end(CountEdgesTest.class);
    }

    private static void howManyWereCommitted() {
        Script.run("how many branches were committed", "commits() = 0; commit() = throws IllegalStateException;"
                + "commits() = 0; predict(1); train(1, true) = throws IllegalStateException;"
                + "commit() = throws IllegalStateException; resolve(0, true) = 0; commits() = 0; commit() = true;"
                + "commits() = 1; train(-1, true) = throws IllegalArgumentException; commits() = 1; train(1, true);"
                + "commits() = 2; predict(1); flush(1) = 0; commits() = 2; setSizes(4, 4, 5) = throws"
                + " IllegalArgumentException; commits() = 2; setSizes(4, 4, 4) = false; commits() = 0");
    }

    private static void whichIs0To3() {
        Script.run("misses: if which is not 0 to 3", "train(1, true); misses(0) = 1; misses(3) = 1; misses(-1)" + NO_SUCH
                + "misses(4)" + NO_SUCH + "misses(256)" + NO_SUCH + "misses(2147483647)" + NO_SUCH
                + "misses(-2147483648)" + NO_SUCH);
    }

    private static void missesOfCommittedOnesAlone() {
        String none = "misses(0) = 0; misses(1) = 0; misses(2) = 0; misses(3) = 0;";
        Script.run("for how many committed branches this was not the outcome: none", none + "predict(1); predict(2);"
                + "resolve(1, true) = 0; resolve(0, true) = 1;" + none + "flush(1) = 0;" + none + "train(1, false);" + none);
        Script.run("for how many committed branches this was not the outcome: each kind alone", "setSizes(2, 8, 0);"
                + "train(4, true) = false; misses(0) = 1; misses(1) = 1; misses(2) = 1; misses(3) = 1; train(4, true) = true;"
                + "train(0, true) = true; misses(0) = 1; misses(1) = 2; misses(2) = 1; misses(3) = 1; train(8, false) = false;"
                + "misses(0) = 2; misses(1) = 2; misses(2) = 2; misses(3) = 2");
    }

    private static void howManyWereDropped() {
        Script.run("how many branches were dropped, by resolving or by flush", "drops() = 0; flush(0) = 0; drops() = 0;"
                + "predict(1) = false;".repeat(16) + "resolve(15, true) = 0; drops() = 0; resolve(0, true) = 15; drops() = 15;"
                + "commit() = true; drops() = 15;" + "predict(2) = false;".repeat(16) + "flush(16) = 0; drops() = 31;"
                + "flush(1) = throws IllegalArgumentException; drops() = 31; predict(2); predict(3);"
                + "flush(3) = throws IllegalArgumentException; drops() = 31; setSizes(4, 4, 4) = false; drops() = 0");
    }

    private static void accuracyIs1IfThereAreNone() {
        Script.run("1 if there are none", "accuracy() = 1.0; predict(1); resolve(0, true) = 0; accuracy() = 1.0; flush(1);"
                + "accuracy() = 1.0; train(1, true) = false; accuracy() = 0.0; setSizes(4, 4, 4); accuracy() = 1.0");
    }

    private static void accuracyFrom0To1() {
        Script.run("all of them were right", "train(1, false) = true; accuracy() = 1.0; train(1, false) = true;"
                + "accuracy() = 1.0");
        Script.run("none of them was right", "setSizes(8, 8, 0); train(1, true) = false; accuracy() = 0.0;"
                + "train(2, true) = false; accuracy() = 0.0; train(3, false) = true; accuracy() = 0.3333333333333333");
    }

    private static void accuracyIsOfThePrediction() {
        Script.run("whose prediction was the outcome, be the choice as it may", "setSizes(8, 8, 0);" + TRUSTED_LOOP
                + "commits() = 15; misses(3) = 6; misses(2) = 6; accuracy() = 0.6; train(7, true); train(7, true);"
                + "train(7, false) = true; misses(2) = 7; misses(3) = 6; accuracy() = 0.6666666666666666;"
                + "train(7, true); train(7, true); train(7, true) = false; misses(2) = 7; misses(3) = 7;"
                + "commits() = 21; accuracy() = 0.6666666666666666");
    }

    /** The quotient is found to sixty digits, and is then the nearest double. */
    private static void accuracyIsRounded() {
        for (int period = 2; period <= 9; period++) {
            BranchPredictor x = new BranchPredictor();
            int right = 0;
            for (int many = 1; many <= 250; many++) {
                right += x.train(many % 5, many % period == 0) ? 1 : 0;
                BigDecimal due = new BigDecimal(right).divide(new BigDecimal(many), new MathContext(60));
                Script.due("rounded to the nearest double: " + right + " / " + many, x.accuracy(), due.doubleValue());
            }
        }
    }

    /** As the document says it, by whole numbers that do not wrap, cut to 64 bits at the end. */
    private static long digestOf(BranchPredictor x, int p, int g, int h) {
        List<Long> numbers = new ArrayList<>(List.of((long) p, (long) g, (long) h, (long) x.history()));
        for (int table = 0; table < 3; table++) {
            for (int i = 0; i < 1 << (table == 1 ? g : p); i++) {
                numbers.add((long) x.counter(table, i));
            }
        }
        for (int number = 0; number < 8; number++) {
            for (int what = 0; what < 4; what++) {
                numbers.add((long) x.loop(number, what));
            }
        }
        for (int i = 0; i < x.inFlight(); i++) {
            numbers.add((long) x.place(i));
            numbers.add((long) x.state(i));
        }
        numbers.addAll(List.of(x.commits(), x.drops(), x.meetings(0, false), x.meetings(1, false)));
        BigInteger d = BigInteger.valueOf(71);
        for (long number : numbers) {
            d = d.multiply(BigInteger.valueOf(31)).add(BigInteger.valueOf(number));
        }
        return d.longValue();
    }

    private static void digest(String title, int p, int g, int h, String calls) {
        BranchPredictor x = Script.run(title, "setSizes(" + p + ", " + g + ", " + h + ");" + calls);
        Script.due(title, x.digest(), digestOf(x, p, g, h));
        Script.due(title + ": a second time", x.digest(), digestOf(x, p, g, h));
    }

    private static void digestStartsWith71AndWraps() {
        for (int p = 2; p <= 8; p++) {
            for (int g = 2; g <= 8; g++) {
                digest("which wraps around as a 64-bit integer", p, g, p % (g + 1), "");
            }
        }
        // Made by hand from 71, three sizes, the history, twelve counters, 32 times -1 and four times 0.
        long d = 71;
        for (int x : new int[] {2, 2, 0, 0, 1, 1, 1, 1, 1, 1, 1, 1, 1, 1, 1, 1}) {
            d = d * 31 + x;
        }
        for (int i = 0; i < 32; i++) {
            d = d * 31 - 1;
        }
        for (int i = 0; i < 4; i++) {
            d = d * 31;
        }
        Script.run("A number d starts with 71", "setSizes(2, 2, 0); digest() = " + d);
    }

    private static void digestOfFreeNumbersAndEntries() {
        StringBuilder calls = new StringBuilder("train(65535, true); train(65535, false);");
        for (int many = 1; many <= 8; many++) {
            digest("four times -1 if there is none", 8, 8, 0, calls.toString());
            calls.append("train(").append(many).append(", true);").append("train(").append(many).append(", false);");
            calls.append("train(").append(many).append(", true);");
        }
        digest("its place, count, trip and trust", 8, 8, 0, TRUSTED_LOOP + "train(7, true); loop(0, 0) = 7;"
                + "loop(0, 1) = 1; loop(0, 2) = 2; loop(0, 3) = 3");
    }

    private static void digestOfBranchesInFlight() {
        for (int many = 0; many <= 16; many++) {
            StringBuilder calls = new StringBuilder();
            for (int i = 0; i < many; i++) {
                calls.append("predict(").append(65535 - 5 * i).append(") = false;");
            }
            digest("for each branch in flight its place and its state, 0", 4, 4, 4, calls.toString());
            for (int i = 0; i < many; i++) {
                calls.append("resolve(").append(i).append(", ").append(i == many - 1).append(");");
            }
            digest("for each branch in flight its place and its state, 1 and 2", 4, 4, 4, calls.toString());
            digest("none that was dropped", 4, 4, 4, calls + "flush(" + many / 2 + ");");
        }
        digest("the oldest first, beyond the end of the ring", 4, 4, 4, "train(9, false);".repeat(13)
                + "predict(1); predict(2); predict(3); predict(4); predict(5); resolve(0, false); resolve(4, true);");
    }

    /** All four numbers are others, and so are the harmful meetings: 2 and none. */
    private static void digestOfCountedNumbers() {
        digest("the numbers of committed and of dropped branches, and of all meetings in both tables", 2, 8, 0,
                "train(0, true); train(4, false); train(0, true); train(256, true); train(3, true);"
                + "predict(1); predict(2); predict(3); predict(1); flush(4) = 0; commits() = 5; drops() = 4;"
                + "meetings(0, false) = 3; meetings(1, false) = 1; meetings(0, true) = 2; meetings(1, true) = 0");
    }

    private static void the512thCall() {
        BranchPredictor x = new BranchPredictor();
        x.train(7, true);
        x.train(7, true);
        x.train(7, false);
        for (int call = 4; call < MOST_CALLS; call++) {
            x.train(7, true);
        }
        Script.due("an object is used for at most 512 calls: a count", x.loop(0, 1), MOST_CALLS - 4);
        BranchPredictor y = new BranchPredictor();
        for (int call = 1; call < MOST_CALLS; call++) {
            if (call % 2 == 1) {
                y.predict(call);
            } else {
                y.flush(1);
            }
        }
        Script.due("an object is used for at most 512 calls: drops", y.drops(), 255L);
        BranchPredictor z = new BranchPredictor();
        for (int call = 1; call < MOST_CALLS; call++) {
            z.train(call, false);
        }
        Script.due("an object is used for at most 512 calls: commits", z.commits(), MOST_CALLS - 1L);
    }
}
