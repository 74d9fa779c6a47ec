/** Promise 14 (loop), and step 4 of committing. */
public final class LoopTest {
    public static void main(String[] args) {
        making();
        learning();
        presumedCounts();
        replacing();
        removing();
        refused();
        Script.end(LoopTest.class);
    }

    private static void making() {
        Script.run("a wrong branch that was not taken", "train(7, true) = false; loop(0, 0) = -1;"
                + "train(7, false) = false; loop(0, 0) = 7; loop(0, 1) = 0; loop(0, 2) = 0; loop(0, 3) = 0;"
                + "loop(0, 4) = 0; loop(1, 0) = -1");
        Script.run("not by a right one", "train(7, false) = true; loop(0, 0) = -1");
        Script.run("not by a taken one", "train(7, true) = false; loop(0, 0) = -1");
        Script.run("by committing alone", "train(7, true); predict(7) = true; resolve(0, false) = 0;"
                + "loop(0, 0) = -1; commit() = true; loop(0, 0) = 7");
        Script.run("a second one, with the next number", "setSizes(4, 4, 0); train(7, true); train(7, false);"
                + "train(0, true); train(0, false); loop(0, 0) = 7; loop(1, 0) = 0; loop(1, 1) = 0; loop(2, 0) = -1");
    }

    private static void learning() {
        String made = "setSizes(8, 8, 0); train(7, true); train(7, false); loop(0, 0) = 7;";
        Script.run("count, trip and trust", made + "train(7, true); loop(0, 1) = 1; train(7, true);"
                + "loop(0, 1) = 2; loop(0, 2) = 0; train(7, false); loop(0, 1) = 0; loop(0, 2) = 2;"
                + "loop(0, 3) = 0; train(7, true); train(7, true); train(7, false); loop(0, 2) = 2;"
                + "loop(0, 3) = 1; loop(0, 1) = 0; train(7, true); train(7, false); loop(0, 2) = 1; loop(0, 3) = 0;"
                + "loop(0, 1) = 0");
        Script.run("the trip 0 earns no trust", made + "train(7, false); loop(0, 2) = 0; loop(0, 3) = 0;"
                + "train(7, false); loop(0, 3) = 0");
        Script.run("the trust stays at 3, and is lost at once", PredictTest.TRUSTED_LOOP + "loop(0, 3) = 3;"
                + "train(7, true); train(7, true); train(7, false) = true; loop(0, 3) = 3; loop(0, 2) = 2;"
                + "train(7, true); train(7, true); train(7, true) = false; loop(0, 3) = 3; loop(0, 1) = 3;"
                + "train(7, false); loop(0, 3) = 0; loop(0, 2) = 3; loop(0, 1) = 0");
        Script.run("other places leave it", made + "train(7, true); train(263, true); train(8, false); loop(0, 1) = 1");
    }

    private static void presumedCounts() {
        Script.run("in flight", PredictTest.TRUSTED_LOOP + "train(7, true); loop(0, 4) = 1; predict(7) = true;"
                + "loop(0, 1) = 1; loop(0, 4) = 2; predict(9) = false; loop(0, 4) = 2; predict(7) = false;"
                + "loop(0, 4) = 0; predict(7) = true; loop(0, 4) = 1; resolve(0, false) = 3; loop(0, 4) = 0;"
                + "loop(0, 1) = 1; commit(); loop(0, 1) = 0; loop(0, 4) = 0");
        Script.run("a right one counts as it was resolved", PredictTest.TRUSTED_LOOP + "predict(7) = true;"
                + "predict(7) = true; resolve(0, true) = -1; loop(0, 4) = 2; commit(); loop(0, 1) = 1;"
                + "loop(0, 4) = 2; flush(1) = 0; loop(0, 4) = 1");
        Script.run("a wrong one that was taken", PredictTest.TRUSTED_LOOP + "predict(7) = true; predict(7) = true;"
                + "predict(7) = false; loop(0, 4) = 0; resolve(2, true) = 0; loop(0, 4) = 3");
        Script.run("an entry without trust", "setSizes(4, 4, 0); train(7, true); train(7, true); train(7, false);"
                + "predict(7) = true; predict(7) = true; loop(0, 4) = 2; loop(0, 3) = 0; loop(0, 1) = 0");
        Script.run("an entry made while its place is in flight", "setSizes(4, 4, 0); train(7, true); train(7, true);"
                + "predict(7) = true; resolve(0, false) = 0; predict(7) = true; predict(7) = true; commit() = true;"
                + "loop(0, 0) = 7; loop(0, 1) = 0; loop(0, 4) = 2");
        Script.run("no entry", "predict(7); loop(0, 4) = -1; loop(7, 4) = -1");
    }

    private static String entry(int place) {
        return "train(" + place + ", true); train(" + place + ", false);";
    }

    private static String trusted(int place) {
        String turn = "train(" + place + ", true); train(" + place + ", false);";
        return turn + turn;
    }

    /** Places 0 to 7 have the entries 0 to 7. */
    private static String eight() {
        StringBuilder calls = new StringBuilder("setSizes(8, 8, 0);");
        for (int place = 0; place < 8; place++) {
            calls.append(entry(place));
        }
        for (int place = 0; place < 8; place++) {
            calls.append("loop(").append(place).append(", 0) = ").append(place).append(";");
        }
        return calls.toString();
    }

    private static void replacing() {
        Script.run("the least trust, the smallest number", eight() + entry(20) + "loop(0, 0) = 20; loop(1, 0) = 1;"
                + entry(21) + "loop(0, 0) = 21; loop(1, 0) = 1");
        Script.run("trust protects", eight() + trusted(0) + "loop(0, 3) = 1;" + trusted(1) + trusted(3) + entry(20)
                + "loop(0, 0) = 0; loop(1, 0) = 1; loop(2, 0) = 20; loop(3, 0) = 3");
        StringBuilder all = new StringBuilder(eight());
        for (int place = 0; place < 8; place++) {
            all.append(trusted(place));
        }
        Script.run("all have the trust 1", all + "loop(7, 3) = 1; loop(0, 3) = 1;" + entry(20)
                + "loop(0, 0) = 20; loop(0, 1) = 0; loop(0, 2) = 0; loop(0, 3) = 0; loop(1, 0) = 1");
        Script.run("the least trust is at the end", all + "train(6, false); loop(6, 3) = 0;" + entry(20)
                + "loop(6, 0) = 20; loop(6, 2) = 0; loop(0, 0) = 0; loop(7, 0) = 7");
        Script.run("of 2 and 1 it is 1", all + "train(0, true); train(0, false); loop(0, 3) = 2;" + entry(20)
                + "loop(0, 0) = 0; loop(1, 0) = 20");
    }

    /** Beyond the 512 calls that the document promises, but its words say it: 1001 is too many. */
    private static void removing() {
        BranchPredictor x = new BranchPredictor();
        x.setSizes(8, 8, 0);
        x.train(7, true);
        x.train(7, false);
        x.train(8, true);
        x.train(8, false);
        for (int i = 0; i < 1000; i++) {
            x.train(7, true);
        }
        Script.due("the count 1000 stays", x.loop(0, 1), 1000);
        x.train(7, true);
        Script.due("the count 1001 is removed", x.loop(0, 0), -1);
        Script.due("another entry stays", x.loop(1, 0), 8);
        x.train(9, true);
        x.train(9, false);
        Script.due("the smallest free number", x.loop(0, 0), 9);
        Script.due("a new count", x.loop(0, 1), 0);
    }

    private static void refused() {
        Script.run("refused", "loop(8, 0) = throws IndexOutOfBoundsException; loop(-1, 0) = throws IndexOutOfBoundsException;"
                + "loop(0, 5) = throws IndexOutOfBoundsException; loop(0, -1) = throws IndexOutOfBoundsException;"
                + "loop(8, 5) = throws IndexOutOfBoundsException; loop(2147483647, 0) = throws IndexOutOfBoundsException;"
                + "loop(0, 2147483647) = throws IndexOutOfBoundsException;"
                + "loop(-2147483648, -2147483648) = throws IndexOutOfBoundsException; loop(7, 4) = -1; loop(7, 0) = -1");
    }
}
