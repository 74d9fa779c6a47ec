import java.lang.reflect.InvocationTargetException;
import java.lang.reflect.Method;

/**
 * Runs of calls written as the document writes its examples: "predict(3) = false; commit()".
 * A call without an answer must only not throw; a refused one is "throws IllegalStateException".
 * Behind every refused call and every call that only looks, nothing may have changed.
 */
final class Script {
    private static final String CHANGING = " setSizes predict resolve commit train flush ";
    private static int wrong = 0;

    private Script() {
    }

    /** Runs the calls on a new object. */
    static BranchPredictor run(String title, String calls) {
        BranchPredictor predictor = new BranchPredictor();
        go(predictor, title, calls);
        return predictor;
    }

    /** Runs the calls on this object. */
    static void go(BranchPredictor predictor, String title, String calls) {
        for (String part : calls.split(";")) {
            if (!part.isBlank()) {
                one(predictor, title, part.trim());
            }
        }
    }

    static void due(String title, Object got, Object want) {
        if (!got.equals(want)) {
            wrong++;
            System.out.println(title + ": answered " + got + ", due is " + want);
        }
    }

    /** Ends the test. */
    static void end(Class<?> test) {
        String name = test.getSimpleName();
        System.out.println(name + (wrong == 0 ? ": all answers are as due" : ": " + wrong + " wrong"));
        if (wrong != 0) {
            System.exit(1);
        }
    }

    private static void one(BranchPredictor predictor, String title, String part) {
        int sign = part.indexOf(" = ");
        String call = sign < 0 ? part : part.substring(0, sign).trim();
        String want = sign < 0 ? null : part.substring(sign + 3).trim();
        String name = call.substring(0, call.indexOf('('));
        String before = Snapshot.of(predictor);
        String got = answer(predictor, call);
        boolean isRefused = got.startsWith("throws");
        if (want == null ? isRefused : !got.equals(want)) {
            due(title + ": " + call, got, want == null ? "no exception" : want);
        }
        if (isRefused || !CHANGING.contains(" " + name + " ")) {
            due(title + ": the state behind " + call, Snapshot.of(predictor), before);
        }
    }

    /** The answer of a call as a text; an exception as "throws Name". */
    static String answer(BranchPredictor predictor, String call) {
        int open = call.indexOf('(');
        String name = call.substring(0, open);
        String inner = call.substring(open + 1, call.lastIndexOf(')')).trim();
        String[] texts = inner.isEmpty() ? new String[0] : inner.split(",");
        try {
            Method method = methodWith(name);
            Object[] arguments = new Object[texts.length];
            for (int i = 0; i < texts.length; i++) {
                boolean isNumber = method.getParameterTypes()[i] == int.class;
                String text = texts[i].trim();
                arguments[i] = isNumber ? (Object) Integer.valueOf(text) : (Object) Boolean.valueOf(text);
            }
            return String.valueOf(method.invoke(predictor, arguments));
        } catch (InvocationTargetException e) {
            return "throws " + e.getCause().getClass().getSimpleName();
        } catch (IllegalAccessException e) {
            return "is not public";
        }
    }

    private static Method methodWith(String name) {
        for (Method method : BranchPredictor.class.getDeclaredMethods()) {
            if (method.getName().equals(name)) {
                return method;
            }
        }
        throw new IllegalArgumentException("the test names no method: " + name);
    }
}
