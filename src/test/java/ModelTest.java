import java.util.Random;
import java.util.function.Supplier;

/** Many runs of up to 512 calls against the plain model; the seeds are fixed. */
public final class ModelTest {
    private static final int RUNS = 1500;

    private final Random random;
    private final BranchPredictor program = new BranchPredictor();
    private final PlainModel model = new PlainModel();
    private final StringBuilder told = new StringBuilder();
    private final int[] places;
    private final int[] periods;
    private final int[] turns;
    private final int noise;
    private final int shape;
    private boolean isWrong = false;

    private ModelTest(int seed) {
        random = new Random(seed);
        int many = 1 + random.nextInt(14);
        places = new int[many];
        periods = new int[many];
        turns = new int[many];
        int range = random.nextBoolean() ? 40 : 65536;
        for (int i = 0; i < many; i++) {
            places[i] = random.nextInt(range);
            periods[i] = 2 + random.nextInt(5);
        }
        noise = random.nextInt(4) * 6;
        shape = random.nextInt(4);
    }

    public static void main(String[] args) {
        for (int seed = 0; seed < RUNS; seed++) {
            new ModelTest(seed).run(seed);
        }
        Script.end(ModelTest.class);
    }

    private void run(int seed) {
        if (random.nextInt(3) > 0) {
            sizes();
        }
        for (int call = 0; call < 250 && !isWrong; call++) {
            change();
            look();
        }
        same("digest()", program::digest, model::digest);
        if (isWrong) {
            Script.due("run " + seed + ": " + told, "another answer than the model", "the same");
        }
    }

    private void same(String call, Supplier<Object> ours, Supplier<Object> due) {
        String got = answer(ours);
        String want = answer(due);
        told.append(call).append(" = ").append(got).append("; ");
        if (!got.equals(want)) {
            told.append("due is ").append(want);
            isWrong = true;
        }
    }

    private static String answer(Supplier<Object> call) {
        try {
            return String.valueOf(call.get());
        } catch (IllegalArgumentException | IllegalStateException | IndexOutOfBoundsException e) {
            return "throws " + e.getClass().getSimpleName();
        }
    }

    private void change() {
        int dice = random.nextInt(100);
        boolean isEmpty = model.inFlight() == 0;
        if (dice == 0) {
            sizes();
        } else if (dice < 5) {
            refused();
        } else if (isEmpty && shape < 3 && dice < 70) {
            train();
        } else if (dice < 45 || isEmpty) {
            int place = places[random.nextInt(places.length)];
            same("predict(" + place + ")", () -> program.predict(place), () -> model.predict(place));
        } else if (dice < 70) {
            resolve();
        } else if (dice < 96) {
            same("commit()", program::commit, model::commit);
        } else {
            int many = random.nextInt(model.inFlight() + 2) - (random.nextInt(10) == 0 ? 1 : 0);
            same("flush(" + many + ")", () -> program.flush(many), () -> model.flush(many));
        }
    }

    private void sizes() {
        int p = 2 + random.nextInt(7) + rarely();
        int g = 2 + random.nextInt(7) + rarely();
        int h = random.nextInt(Math.max(1, g + 1)) + rarely();
        same("setSizes(" + p + ", " + g + ", " + h + ")",
                () -> program.setSizes(p, g, h), () -> model.setSizes(p, g, h));
    }

    private int rarely() {
        return random.nextInt(40) == 0 ? random.nextInt(15) - 7 : 0;
    }

    private int anyInt() {
        int[] some = {-1, 0, 1, 3, 4, 5, 7, 8, 15, 16, 255, 256, 65535, 65536, Integer.MIN_VALUE, Integer.MAX_VALUE};
        return some[random.nextInt(some.length)];
    }

    private void refused() {
        int a = anyInt();
        boolean isTaken = random.nextBoolean();
        same("predict(" + a + ")", () -> program.predict(a), () -> model.predict(a));
        int b = anyInt();
        same("train(" + b + ", " + isTaken + ")", () -> program.train(b, isTaken), () -> model.train(b, isTaken));
        int c = anyInt();
        same("resolve(" + c + ", " + isTaken + ")", () -> program.resolve(c, isTaken), () -> model.resolve(c, isTaken));
        int d = anyInt();
        same("flush(" + d + ")", () -> program.flush(d), () -> model.flush(d));
    }

    /** A branch at this place as its loop goes, but for some noise. */
    private boolean outcome(int i) {
        boolean isTaken = turns[i] % periods[i] != periods[i] - 1;
        turns[i]++;
        return isTaken != random.nextInt(100) < noise;
    }

    private void train() {
        int i = random.nextInt(Math.max(1, shape * places.length / 3 + 1)) % places.length;
        int many = shape == 1 ? periods[i] : 1;
        for (int turn = 0; turn < many; turn++) {
            boolean isTaken = outcome(i);
            same("train(" + places[i] + ", " + isTaken + ")",
                    () -> program.train(places[i], isTaken), () -> model.train(places[i], isTaken));
        }
    }

    private void resolve() {
        int index = random.nextInt(10) == 0 ? random.nextInt(model.inFlight() + 1)
                : random.nextInt(1 + Math.min(2, model.inFlight()));
        boolean isTaken = random.nextBoolean();
        if (index < model.inFlight() && random.nextInt(4) > 0) {
            isTaken = model.predicted(index, 3);
        }
        boolean o = isTaken;
        same("resolve(" + index + ", " + o + ")", () -> program.resolve(index, o), () -> model.resolve(index, o));
    }

    private void look() {
        int a = random.nextInt(8) == 0 ? anyInt() : random.nextInt(5);
        int b = random.nextInt(8) == 0 ? anyInt() : random.nextInt(5);
        boolean is = random.nextBoolean();
        switch (random.nextInt(14)) {
            case 0 -> same("inFlight()", program::inFlight, model::inFlight);
            case 1 -> same("place(" + a + ")", () -> program.place(a), () -> model.place(a));
            case 2 -> same("state(" + a + ")", () -> program.state(a), () -> model.state(a));
            case 3, 4 -> same("predicted(" + a + ", " + b + ")", () -> program.predicted(a, b), () -> model.predicted(a, b));
            case 5 -> same("history()", program::history, model::history);
            case 6 -> same("counter(" + a + ", " + b + ")", () -> program.counter(a, b), () -> model.counter(a, b));
            case 7 -> same("loop(" + a + ", " + b + ")", () -> program.loop(a, b), () -> model.loop(a, b));
            case 8 -> same("commits()", program::commits, model::commits);
            case 9 -> same("misses(" + a + ")", () -> program.misses(a), () -> model.misses(a));
            case 10 -> same("drops()", program::drops, model::drops);
            case 11 -> same("meetings(" + a + ", " + is + ")", () -> program.meetings(a, is), () -> model.meetings(a, is));
            case 12 -> same("accuracy()", program::accuracy, model::accuracy);
            default -> same("digest()", program::digest, model::digest);
        }
    }
}
