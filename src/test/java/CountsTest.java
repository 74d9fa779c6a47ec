/** Promises 15 (commits), 16 (misses), 19 (accuracy) and 20 (digest). */
public final class CountsTest {
    public static void main(String[] args) {
        commits();
        misses();
        accuracy();
        digests();
        Script.end(CountsTest.class);
    }

    private static void commits() {
        Script.run("commits", "commits() = 0; predict(1); commits() = 0; resolve(0, true); commits() = 0;"
                + "commit(); commits() = 1; train(1, true); commits() = 2; predict(1); flush(1); commits() = 2");
    }

    private static void misses() {
        Script.run("all four were wrong", "train(5, true) = false; misses(0) = 1; misses(1) = 1; misses(2) = 1;"
                + "misses(3) = 1");
        Script.run("the global one alone", "train(5, true); train(5, true) = true; misses(0) = 1; misses(1) = 2;"
                + "misses(2) = 1; misses(3) = 1");
        Script.run("the plain one and the choice", "train(5, true); train(5, false) = false; misses(0) = 2;"
                + "misses(1) = 1; misses(2) = 2; misses(3) = 2");
        Script.run("the loop was right, the others were not", PredictTest.TRUSTED_LOOP + "misses(0) = 6; misses(1) = 6;"
                + "misses(2) = 6; misses(3) = 6; train(7, true); train(7, true); train(7, false) = true;"
                + "misses(0) = 7; misses(1) = 7; misses(2) = 7; misses(3) = 6");
        Script.run("the loop alone was wrong", PredictTest.TRUSTED_LOOP + "train(7, true); train(7, true);"
                + "train(7, true) = false; misses(0) = 6; misses(2) = 6; misses(3) = 7");
        Script.run("only committed ones", "predict(1); resolve(0, true); misses(3) = 0; flush(1); misses(3) = 0");
        Script.run("refused", "misses(4) = throws IndexOutOfBoundsException; misses(-1) = throws IndexOutOfBoundsException;"
                + "misses(2147483647) = throws IndexOutOfBoundsException;"
                + "misses(-2147483648) = throws IndexOutOfBoundsException");
    }

    private static void accuracy() {
        Script.run("accuracy", "accuracy() = 1.0; predict(1); resolve(0, true); accuracy() = 1.0; commit();"
                + "accuracy() = 0.0; train(1, true) = true; accuracy() = 0.5; train(1, true) = true;"
                + "accuracy() = 0.6666666666666666; train(1, true) = true; accuracy() = 0.75");
        Script.run("one third", "setSizes(4, 4, 0); train(1, true) = false; train(1, false) = false;"
                + "train(1, false) = true; accuracy() = 0.3333333333333333");
        Script.run("it is of the prediction, not of the choice", PredictTest.TRUSTED_LOOP + "train(7, true); train(7, true);"
                + "train(7, false) = true; accuracy() = 0.6666666666666666");
    }

    private static long mixed(long[] numbers) {
        long d = 71;
        for (long x : numbers) {
            d = d * 31 + x;
        }
        return d;
    }

    /** p = 2, g = 3, so that the tables are told apart by their length. */
    private static void digests() {
        long[] fresh = {2, 3, 1, 0, 1, 1, 1, 1, 1, 1, 1, 1, 1, 1, 1, 1, 1, 1, 1, 1,
            -1, -1, -1, -1, -1, -1, -1, -1, -1, -1, -1, -1, -1, -1, -1, -1,
            -1, -1, -1, -1, -1, -1, -1, -1, -1, -1, -1, -1, -1, -1, -1, -1, 0, 0, 0, 0};
        Script.run("of a new object", "setSizes(2, 3, 1); digest() = " + mixed(fresh));
        // Two are flushed. 3 taken: plain 3 and global 3 become 2, history 1. 3 not taken: plain 3
        // becomes 1, global 2 becomes 0, choice 3 becomes 2, history 0, loop 0. 7 taken: plain 3
        // becomes 2 (a meeting), global 7 becomes 2, history 1. 6 not taken, right by the plain
        // counter 2: it becomes 0, global 7 becomes 1 (a meeting), choice 2 becomes 0, history 0.
        // 14 not taken: plain 2 stays (a meeting), global 6 becomes 0. Then 5 is resolved as right,
        // 4 as wrong, and one branch behind it is dropped.
        long[] busy = {2, 3, 1, 1, 1, 1, 0, 2, 1, 1, 0, 2, 1, 1, 0, 1, 1, 1, 0, 2,
            3, 0, 0, 0, -1, -1, -1, -1, -1, -1, -1, -1, -1, -1, -1, -1,
            -1, -1, -1, -1, -1, -1, -1, -1, -1, -1, -1, -1, -1, -1, -1, -1,
            5, 1, 4, 2, 5, 3, 2, 1};
        Script.run("of a busy one", "setSizes(2, 3, 1); predict(0); predict(0); flush(2); train(3, true) = false;"
                + "train(3, false) = false; train(7, true) = false; train(6, false) = true;"
                + "train(14, false) = true; predict(5) = false; predict(4) = false; predict(1) = false;"
                + "resolve(0, false) = -1; resolve(1, true) = 1; digest() = " + mixed(busy));
        Script.run("an unresolved branch has the state 0", "setSizes(2, 3, 1); predict(9) = false; digest() = "
                + mixed(unresolved(fresh)));
    }

    /** A branch with the place 9 in flight; behind it the four numbers that were counted. */
    private static long[] unresolved(long[] fresh) {
        long[] longer = new long[fresh.length + 2];
        int behind = fresh.length - 4;
        System.arraycopy(fresh, 0, longer, 0, behind);
        longer[behind] = 9;
        longer[behind + 1] = 0;
        return longer;
    }
}
