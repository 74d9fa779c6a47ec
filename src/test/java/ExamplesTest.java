/** The document's four examples. */
public final class ExamplesTest {
    public static void main(String[] args) {
        Script.run("example 1", "predict(3) = false; resolve(0, true) = 0; commit() = true;"
                + "counter(0, 3) = 2; history() = 1; train(3, true) = true; misses(3) = 1");
        Script.run("example 2", "predict(1) = false; predict(2) = false; predict(3) = false;"
                + "resolve(0, true) = 2; inFlight() = 1; drops() = 2; history() = 1; commit() = true");
        Script.run("example 3", "train(7, true) = false; train(7, true) = true; train(7, false) = false;"
                + "loop(0, 0) = 7; loop(0, 2) = 0; train(7, true) = true; loop(0, 1) = 1;"
                + "train(23, false) = false; meetings(0, false) = 1");
        Script.run("example 4", "commit() = throws IllegalStateException;"
                + "predict(70000) = throws IllegalArgumentException; predict(9) = false;"
                + "train(9, true) = throws IllegalStateException;"
                + "resolve(1, true) = throws IndexOutOfBoundsException; resolve(0, false) = -1;"
                + "resolve(0, false) = throws IllegalStateException; flush(1) = 0; accuracy() = 1.0");
        Script.end(ExamplesTest.class);
    }
}
