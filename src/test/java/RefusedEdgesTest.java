import java.util.ArrayList;
import java.util.List;

/**
 * "A method that throws an exception changes nothing. If several exceptions apply, the one that is
 * named first is thrown." One of two twins gets, ahead of each call, every call that the document
 * refuses at that time; behind all of them the twins must go on alike.
 */
public final class RefusedEdgesTest {
    private static final String BAD_ARGUMENT = "throws IllegalArgumentException";
    private static final String BAD_INDEX = "throws IndexOutOfBoundsException";
    private static final String BAD_STATE = "throws IllegalStateException";
    private static final int LEAST = Integer.MIN_VALUE;
    private static final int MOST = Integer.MAX_VALUE;

    private final List<String[]> refused = new ArrayList<>();
    private final BranchPredictor x;
    private final int p;
    private final int g;

    private RefusedEdgesTest(BranchPredictor x, int p, int g) {
        this.x = x;
        this.p = p;
        this.g = g;
    }

    public static void main(String[] args) {
        twins(4, 4, 4);
        twins(2, 8, 3);
        twins(8, 2, 0);
        Script.end(RefusedEdgesTest.class);
    }

    private static void twins(int p, int g, int h) {
        String sizes = "setSizes(" + p + ", " + g + ", " + h + ")";
        BranchPredictor troubled = Script.run(sizes, sizes);
        BranchPredictor calm = Script.run(sizes, sizes);
        List<String> calls = new ArrayList<>(Twins.LONG_RUN);
        calls.addAll(Twins.LONG_RUN);
        for (String call : calls) {
            new RefusedEdgesTest(troubled, p, g).callAll(sizes + " .. ahead of " + call);
            String title = "A method that throws an exception changes nothing, " + sizes + " .. " + call;
            Script.due(title, Script.answer(troubled, call), Script.answer(calm, call));
            Script.due(title, Snapshot.of(troubled), Snapshot.of(calm));
        }
        Script.due("sizes are left alone", Script.answer(troubled, sizes), "false");
    }

    private void callAll(String title) {
        setSizes();
        branches();
        views();
        tables();
        for (String[] one : refused) {
            Script.go(x, title, one[0] + " = " + one[1]);
        }
    }

    private void add(String call, String due) {
        refused.add(new String[] {call, due});
    }

    private void setSizes() {
        for (String three : new String[] {"1, 4, 4", "9, 4, 4", "4, 1, 1", "4, 9, 4", "4, 4, 5", "4, 4, -1", "9, 9, 10"}) {
            add("setSizes(" + three + ")", BAD_ARGUMENT);
        }
    }

    private void branches() {
        int flying = x.inFlight();
        for (int place : new int[] {-1, 65536, LEAST, MOST}) {
            add("predict(" + place + ")", BAD_ARGUMENT);
            add("train(" + place + ", true)", BAD_ARGUMENT);
            add("train(" + place + ", false)", BAD_ARGUMENT);
        }
        if (flying == 16) {
            add("predict(7)", BAD_STATE);
        }
        if (flying > 0) {
            add("train(7, true)", BAD_STATE);
            add("train(7, false)", BAD_STATE);
        }
        if (flying == 0 || x.state(0) == 0) {
            add("commit()", BAD_STATE);
        }
        for (int index = 0; index < flying; index++) {
            if (x.state(index) != 0) {
                add("resolve(" + index + ", true)", BAD_STATE);
                add("resolve(" + index + ", false)", BAD_STATE);
            }
        }
        for (int many : new int[] {-1, flying + 1, 17, LEAST, MOST}) {
            add("flush(" + many + ")", BAD_ARGUMENT);
        }
    }

    private void views() {
        int flying = x.inFlight();
        for (int index : new int[] {-1, flying, 16, LEAST, MOST}) {
            add("resolve(" + index + ", true)", BAD_INDEX);
            add("resolve(" + index + ", false)", BAD_INDEX);
            add("place(" + index + ")", BAD_INDEX);
            add("state(" + index + ")", BAD_INDEX);
            add("predicted(" + index + ", 0)", BAD_INDEX);
            add("predicted(" + index + ", 4)", BAD_INDEX);
        }
        for (int which : new int[] {-1, 4, LEAST, MOST}) {
            add("predicted(0, " + which + ")", BAD_INDEX);
            add("misses(" + which + ")", BAD_INDEX);
        }
    }

    private void tables() {
        for (int index : new int[] {-1, 256, LEAST, MOST}) {
            for (int table = 0; table < 3; table++) {
                add("counter(" + table + ", " + index + ")", BAD_INDEX);
            }
        }
        add("counter(0, " + (1 << p) + ")", BAD_INDEX);
        add("counter(1, " + (1 << g) + ")", BAD_INDEX);
        add("counter(2, " + (1 << p) + ")", BAD_INDEX);
        for (int table : new int[] {-1, 3, LEAST, MOST}) {
            add("counter(" + table + ", 0)", BAD_INDEX);
            add("meetings(" + table + ", true)", BAD_INDEX);
        }
        add("meetings(2, false)", BAD_INDEX);
        for (int number : new int[] {-1, 8, LEAST, MOST}) {
            add("loop(" + number + ", 0)", BAD_INDEX);
        }
        for (int what : new int[] {-1, 5, LEAST, MOST}) {
            add("loop(0, " + what + ")", BAD_INDEX);
        }
    }
}
