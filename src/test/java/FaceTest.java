import java.lang.reflect.Constructor;
import java.lang.reflect.Field;
import java.lang.reflect.Member;
import java.lang.reflect.Method;
import java.lang.reflect.Modifier;
import java.util.Arrays;
import java.util.HashSet;
import java.util.Set;
import java.util.TreeSet;

/** The class shows the document's face and nothing else (LANGUAGE.md, rules 1 and 5). */
public final class FaceTest {
    private static final String ARGUMENT = " throws IllegalArgumentException";
    private static final String ARGUMENT_AND_STATE = " throws IllegalArgumentException, IllegalStateException";
    private static final String INDEX = " throws IndexOutOfBoundsException";

    private static final String[] FACE = {
        "int put(int, int)" + ARGUMENT_AND_STATE,
        "int pushToFront(int)" + INDEX,
        "int drop(int)" + INDEX,
        "int setGear(int)" + ARGUMENT,
        "int setStones(int)" + ARGUMENT,
        "int setMesh(int)" + ARGUMENT,
        "int addTalker(int, int, int)" + ARGUMENT_AND_STATE,
        "int pass(int)" + ARGUMENT,
        "int minute()",
        "int topics()",
        "int sizeAt(int)" + INDEX,
        "int kindAt(int)" + INDEX,
        "int largest()",
        "int noise()",
        "int topicsOf(int)" + INDEX,
        "int turnsToNod(int)" + INDEX,
        "int nods()",
        "int bottles()",
        "int sieved()",
        "int gear()",
        "int stones()",
        "int mesh()",
        "int talkers()",
        "int present()",
        "boolean isPresent(int)" + INDEX,
        "int patienceOf(int)" + INDEX,
        "int exitOf(int)" + INDEX,
        "int nextToGo()",
        "int noiseIn(int)" + ARGUMENT,
        "int minutesUntilQuiet()",
        "int minutesUntilExit(int)" + INDEX,
        "int bestGear()",
        "int bestPush()",
        "int bottlesIn(int)" + ARGUMENT,
        "double meanPatience()",
        "long digest()",
    };

    private static final Checks CHECKS = new Checks();

    public static void main(String[] args) {
        methods();
        restIsHidden();
        namesInside();
        CHECKS.end();
    }

    private static void methods() {
        Set<String> got = new TreeSet<>();
        for (Method method : SmallerTalk.class.getDeclaredMethods()) {
            if (Modifier.isPublic(method.getModifiers())) {
                got.add(signature(method));
            }
        }
        CHECKS.due("the public methods", got.toString(), new TreeSet<>(Arrays.asList(FACE)).toString());
    }

    private static String signature(Method method) {
        StringBuilder text = new StringBuilder();
        text.append(method.getReturnType()).append(' ').append(method.getName()).append('(');
        text.append(names(method.getParameterTypes())).append(')');
        String thrown = names(method.getExceptionTypes());
        return text.append(thrown.isEmpty() ? "" : " throws ").append(thrown).toString();
    }

    private static String names(Class<?>[] types) {
        StringBuilder text = new StringBuilder();
        for (Class<?> type : types) {
            text.append(text.length() == 0 ? "" : ", ").append(type.getSimpleName());
        }
        return text.toString();
    }

    private static void restIsHidden() {
        int kind = SmallerTalk.class.getModifiers();
        CHECKS.due("public and final", Modifier.isPublic(kind) && Modifier.isFinal(kind), true);
        Constructor<?>[] constructors = SmallerTalk.class.getDeclaredConstructors();
        CHECKS.due("one constructor", constructors.length, 1);
        CHECKS.due("the constructor", Modifier.isPublic(constructors[0].getModifiers()), true);
        CHECKS.due("its parameters", constructors[0].getParameterCount(), 0);
        for (Method method : SmallerTalk.class.getDeclaredMethods()) {
            if (!Modifier.isPublic(method.getModifiers())) {
                hidden(method);
            }
        }
        for (Field field : SmallerTalk.class.getDeclaredFields()) {
            hidden(field);
            staticIsConstant(field);
        }
        for (Class<?> inside : SmallerTalk.class.getDeclaredClasses()) {
            int how = inside.getModifiers();
            CHECKS.due(inside.getName() + " is static", Modifier.isStatic(how), true);
            CHECKS.due(inside.getName() + " is public", Modifier.isPublic(how) || Modifier.isProtected(how), false);
            for (Field field : inside.getDeclaredFields()) {
                staticIsConstant(field);
            }
        }
    }

    private static void hidden(Member member) {
        CHECKS.due(member.getName() + " is private", Modifier.isPrivate(member.getModifiers()), true);
    }

    private static void staticIsConstant(Field field) {
        int how = field.getModifiers();
        CHECKS.due(field.getName() + " is final if static", !Modifier.isStatic(how) || Modifier.isFinal(how), true);
    }

    private static void namesInside() {
        Set<String> taken = new HashSet<>();
        for (String line : FACE) {
            taken.add(line.substring(line.indexOf(' ') + 1, line.indexOf('(')));
        }
        for (Method method : SmallerTalk.class.getDeclaredMethods()) {
            if (!Modifier.isPublic(method.getModifiers())) {
                CHECKS.due("private " + method.getName() + " has a public name", taken.contains(method.getName()), false);
            }
        }
        for (Class<?> inside : SmallerTalk.class.getDeclaredClasses()) {
            for (Method method : inside.getDeclaredMethods()) {
                String name = inside.getSimpleName() + "." + method.getName();
                CHECKS.due(name + " has a public name", taken.contains(method.getName()), false);
            }
        }
    }
}
