import java.lang.reflect.Constructor;
import java.lang.reflect.Field;
import java.lang.reflect.Member;
import java.lang.reflect.Method;
import java.lang.reflect.Modifier;
import java.util.Arrays;
import java.util.Set;
import java.util.TreeSet;
import java.util.stream.Collectors;

/**
 * The class has the public face that stands in the document, and, as rules 1 and 5 of the language
 * ask, nothing else that can be seen from outside and nothing static but constants.
 */
public final class FaceTest {
    /** As in the document, but for the parameters' names, which a compiled class does not keep. */
    private static final String[] FACE = {
        "public ToneButterflies()",
        "public int ring(int, int) throws IllegalArgumentException",
        "public int order(int) throws IllegalArgumentException",
        "public int inverse(int) throws IllegalArgumentException",
        "public int root(int) throws IllegalArgumentException",
        "public int set(int, int, int) throws IndexOutOfBoundsException, IllegalArgumentException",
        "public int copy(int, int) throws IndexOutOfBoundsException",
        "public int turn(int, boolean) throws IndexOutOfBoundsException",
        "public int mirror(int) throws IndexOutOfBoundsException",
        "public int stage(int, int) throws IndexOutOfBoundsException",
        "public int fold(int, int) throws IndexOutOfBoundsException",
        "public int join(int, int, int) throws IndexOutOfBoundsException",
        "public int move(int, int) throws IndexOutOfBoundsException, IllegalArgumentException",
        "public int times(int, int) throws IndexOutOfBoundsException, IllegalArgumentException",
        "public int at(int, int) throws IndexOutOfBoundsException",
        "public int point(int, int) throws IndexOutOfBoundsException, IllegalArgumentException",
        "public int about(int, int) throws IndexOutOfBoundsException",
        "public int count(int) throws IndexOutOfBoundsException",
        "public int would(int, int, int) throws IndexOutOfBoundsException",
        "public int comes(int, int) throws IndexOutOfBoundsException",
        "public int advise(int, int) throws IndexOutOfBoundsException",
        "public boolean tones(int, int) throws IndexOutOfBoundsException",
        "public double mean(int) throws IndexOutOfBoundsException",
        "public long digest()"};

    private static final Set<Class<?>> CONSTANTS = Set.of(int.class, long.class, boolean.class, char.class,
        String.class, int[].class, long[].class, char[].class, byte[].class);

    private static int wrong = 0;

    public static void main(String[] args) {
        Class<?> program = ToneButterflies.class;
        due("the class", Modifier.toString(program.getModifiers()) + " class " + program.getName(),
            "public final class ToneButterflies");
        due("what it extends", program.getSuperclass(), Object.class);
        due("what it implements", program.getInterfaces().length, 0);
        due("what is not private", seen(program), new TreeSet<>(Arrays.asList(FACE)));
        ownNames(program);
        fields(program);
        System.out.println(wrong == 0 ? "the face is the document's" : wrong + " answers are not as due");
        if (wrong != 0) {
            System.exit(1);
        }
    }

    private static void due(String what, Object got, Object want) {
        if (!want.equals(got)) {
            wrong++;
            System.out.println(what + ": got " + got + ", due is " + want);
        }
    }

    private static TreeSet<String> seen(Class<?> program) {
        TreeSet<String> seen = new TreeSet<>();
        for (Constructor<?> made : program.getDeclaredConstructors()) {
            if (!isHidden(made)) {
                seen.add(modifiers(made) + program.getName() + types(made.getParameterTypes())
                    + thrown(made.getExceptionTypes()));
            }
        }
        for (Method method : program.getDeclaredMethods()) {
            if (!isHidden(method)) {
                seen.add(modifiers(method) + method.getReturnType().getSimpleName() + " " + method.getName()
                    + types(method.getParameterTypes()) + thrown(method.getExceptionTypes()));
            }
        }
        for (Field field : program.getDeclaredFields()) {
            if (!isHidden(field)) {
                seen.add(modifiers(field) + field.getType().getSimpleName() + " " + field.getName());
            }
        }
        return seen;
    }

    private static boolean isHidden(Member member) {
        return Modifier.isPrivate(member.getModifiers()) || member.isSynthetic();
    }

    private static String modifiers(Member member) {
        String modifiers = Modifier.toString(member.getModifiers());
        return modifiers.isEmpty() ? "" : modifiers + " ";
    }

    private static String types(Class<?>[] types) {
        return "(" + names(types) + ")";
    }

    private static String thrown(Class<?>[] types) {
        return types.length == 0 ? "" : " throws " + names(types);
    }

    private static String names(Class<?>[] types) {
        return Arrays.stream(types).map(Class::getSimpleName).collect(Collectors.joining(", "));
    }

    private static void ownNames(Class<?> program) {
        TreeSet<String> open = new TreeSet<>();
        for (String call : FACE) {
            open.add(call.replaceAll("\\(.*", "").replaceAll(".* ", ""));
        }
        for (Method method : program.getDeclaredMethods()) {
            if (isHidden(method)) {
                String name = method.getName();
                due("a private method with the public name " + name, open.contains(name), false);
            }
        }
    }

    private static void fields(Class<?> program) {
        for (Field field : program.getDeclaredFields()) {
            if (Modifier.isStatic(field.getModifiers())) {
                due(field.getName() + " is final", Modifier.isFinal(field.getModifiers()), true);
                due(field.getName() + " is a constant", CONSTANTS.contains(field.getType()), true);
            }
        }
    }
}
