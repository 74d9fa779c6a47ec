import java.io.IOException;
import java.lang.reflect.Constructor;
import java.lang.reflect.Field;
import java.lang.reflect.Method;
import java.lang.reflect.Modifier;
import java.nio.file.Files;
import java.nio.file.Path;
import java.util.Set;
import java.util.TreeSet;

/** The document's public face, and what of LANGUAGE.md can be told by looking at the class. */
public final class FaceTest {
    private static final String BAD_ARGUMENT = " throws IllegalArgumentException";
    private static final String BAD_INDEX = " throws IndexOutOfBoundsException";
    private static final String BAD_STATE = " throws IllegalStateException";
    private static final Set<String> FACE = Set.of(
            "boolean setSizes int int int" + BAD_ARGUMENT,
            "boolean predict int" + BAD_ARGUMENT + BAD_STATE,
            "int resolve int boolean" + BAD_INDEX + BAD_STATE,
            "boolean commit" + BAD_STATE,
            "boolean train int boolean" + BAD_ARGUMENT + BAD_STATE,
            "int flush int" + BAD_ARGUMENT,
            "int inFlight",
            "int place int" + BAD_INDEX,
            "int state int" + BAD_INDEX,
            "boolean predicted int int" + BAD_INDEX,
            "int history",
            "int counter int int" + BAD_INDEX,
            "int loop int int" + BAD_INDEX,
            "long commits",
            "long misses int" + BAD_INDEX,
            "long drops",
            "long meetings int boolean" + BAD_INDEX,
            "double accuracy",
            "long digest");

    public static void main(String[] args) throws IOException {
        face();
        privateRest();
        source();
        Script.end(FaceTest.class);
    }

    private static void face() {
        int modifiers = BranchPredictor.class.getModifiers();
        Script.due("public final", Modifier.isPublic(modifiers) && Modifier.isFinal(modifiers), true);
        Constructor<?>[] constructors = BranchPredictor.class.getDeclaredConstructors();
        Script.due("constructors", constructors.length, 1);
        Script.due("the constructor is public", Modifier.isPublic(constructors[0].getModifiers()), true);
        Script.due("the constructor's parameters", constructors[0].getParameterCount(), 0);
        Set<String> seen = new TreeSet<>();
        for (Method method : BranchPredictor.class.getDeclaredMethods()) {
            if (Modifier.isPublic(method.getModifiers())) {
                seen.add(told(method));
            }
        }
        Script.due("the public methods", seen, new TreeSet<>(FACE));
    }

    private static String told(Method method) {
        StringBuilder text = new StringBuilder(method.getReturnType() + " " + method.getName());
        for (Class<?> type : method.getParameterTypes()) {
            text.append(' ').append(type);
        }
        for (Class<?> type : method.getExceptionTypes()) {
            text.append(" throws ").append(type.getSimpleName());
        }
        return text.toString();
    }

    private static void privateRest() {
        Set<String> open = new TreeSet<>();
        for (Method method : BranchPredictor.class.getMethods()) {
            open.add(method.getName());
        }
        for (Method method : BranchPredictor.class.getDeclaredMethods()) {
            if (!Modifier.isPublic(method.getModifiers())) {
                Script.due("private: " + method.getName(), Modifier.isPrivate(method.getModifiers()), true);
                Script.due("a public method has the name " + method.getName(), open.contains(method.getName()), false);
            }
        }
        for (Field field : BranchPredictor.class.getDeclaredFields()) {
            int modifiers = field.getModifiers();
            Script.due("private: " + field.getName(), Modifier.isPrivate(modifiers), true);
            boolean isConstant = !Modifier.isStatic(modifiers) || Modifier.isFinal(modifiers);
            Script.due("static fields are final: " + field.getName(), isConstant, true);
        }
        for (Class<?> inside : BranchPredictor.class.getDeclaredClasses()) {
            Script.due("static: " + inside.getName(), Modifier.isStatic(inside.getModifiers()), true);
        }
    }

    private static void source() throws IOException {
        String text = Files.readString(Path.of("src/main/java/BranchPredictor.java"));
        String[] ruledOut = {"import ", "package ", "->", "::", "try", "catch", "finally", "synchronized", "assert",
            "instanceof", "Exact", "hashCode", "toString", "java.", "Object", "static {", "while (true)", "for (;;)"};
        for (String word : ruledOut) {
            Script.due("the source has '" + word + "'", text.replace("entry", "").contains(word), false);
        }
        Script.due("plain signs", text.chars().allMatch(sign -> sign < 128), true);
    }
}
