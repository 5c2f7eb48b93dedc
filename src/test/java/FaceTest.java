import java.lang.reflect.Constructor;
import java.lang.reflect.Field;
import java.lang.reflect.InvocationTargetException;
import java.lang.reflect.Member;
import java.lang.reflect.Method;
import java.lang.reflect.Modifier;
import java.util.Arrays;
import java.util.List;
import java.util.Set;
import java.util.TreeSet;
import java.util.function.Consumer;

/** The class has the document's face, no other member that can be seen from outside, and throws only what it names. */
public final class FaceTest {
    private static final Expect EXPECT = new Expect();
    private static final int[] NUMBERS = {Integer.MIN_VALUE, Integer.MIN_VALUE + 1, -20, -2, -1, 0, 1, 2, 3, 6, 7, 8, 9,
        10, 12, 13, 19, 20, 59, 60, 99, 100, 119, 120, 199, 200, Integer.MAX_VALUE - 1, Integer.MAX_VALUE};

    public static void main(String[] args) throws IllegalAccessException {
        Class<?> face = StructureRows.class;
        if (!Modifier.isPublic(face.getModifiers()) || !Modifier.isFinal(face.getModifiers())) {
            EXPECT.complain("the class", "is not public and final");
        }
        compare("methods", publicMethods(face), new TreeSet<>(Arrays.asList(
                "int at(int, int) IndexOutOfBoundsException",
                "int check()",
                "int content(int, int, int) NoSuchElementException IllegalArgumentException"
                        + " UnsupportedOperationException",
                "int element(int, int) NoSuchElementException IllegalArgumentException"
                        + " UnsupportedOperationException",
                "int fault(int, int) IndexOutOfBoundsException",
                "int heading(int, int) NoSuchElementException IllegalArgumentException",
                "int map(int, int) IllegalArgumentException",
                "int outline(int, int) IndexOutOfBoundsException",
                "int parent(int, int) IllegalArgumentException",
                "int shows(int, int) IllegalArgumentException",
                "int span(int, int, int) NoSuchElementException IllegalArgumentException",
                "int untagged(int) IndexOutOfBoundsException",
                "int walk()",
                "int words(int, boolean) NoSuchElementException")));
        hidesTheRest(face);
        for (Method method : face.getDeclaredMethods()) {
            if (Modifier.isPublic(method.getModifiers())) {
                throwsWhatItNames(method, States::fresh);
                throwsWhatItNames(method, States::middle);
                throwsWhatItNames(method, States::full);
            }
        }
        EXPECT.end();
    }

    /** All numbers for all parameters: the call answers, or throws one of the very classes that it names. */
    private static void throwsWhatItNames(Method method, Consumer<StructureRows> state) throws IllegalAccessException {
        List<Class<?>> named = Arrays.asList(method.getExceptionTypes());
        Class<?>[] types = method.getParameterTypes();
        StructureRows rows = new StructureRows();
        state.accept(rows);
        int ways = 1;
        for (int i = 0; i < types.length; i++) {
            ways *= NUMBERS.length;
        }
        for (int way = 0; way < ways; way++) {
            Object[] given = new Object[types.length];
            int left = way;
            for (int i = 0; i < types.length; i++) {
                int number = NUMBERS[left % NUMBERS.length];
                given[i] = types[i] == boolean.class ? (Object) (number < 0) : (Object) number;
                left /= NUMBERS.length;
            }
            try {
                method.invoke(rows, given);
            } catch (InvocationTargetException thrown) {
                if (!named.contains(thrown.getCause().getClass())) {
                    EXPECT.complain(method.getName() + Arrays.toString(given), "threw " + thrown.getCause());
                }
            }
        }
    }

    private static Set<String> publicMethods(Class<?> face) {
        Set<String> found = new TreeSet<>();
        for (Method method : face.getDeclaredMethods()) {
            if (Modifier.isPublic(method.getModifiers())) {
                found.add(describe(method));
            }
        }
        return found;
    }

    private static String describe(Method method) {
        StringBuilder text = new StringBuilder();
        text.append(method.getReturnType().getSimpleName()).append(' ').append(method.getName()).append('(');
        String between = "";
        for (Class<?> type : method.getParameterTypes()) {
            text.append(between).append(type.getSimpleName());
            between = ", ";
        }
        text.append(')');
        for (Class<?> thrown : method.getExceptionTypes()) {
            text.append(' ').append(thrown.getSimpleName());
        }
        return text.toString();
    }

    private static void hidesTheRest(Class<?> face) {
        for (Method method : face.getDeclaredMethods()) {
            mustBeHidden(method, Modifier.isPublic(method.getModifiers()));
        }
        for (Field field : face.getDeclaredFields()) {
            mustBeHidden(field, false);
        }
        Constructor<?>[] constructors = face.getDeclaredConstructors();
        EXPECT.is("constructors", constructors.length, 1);
        EXPECT.is("the constructor's parameters", constructors[0].getParameterCount(), 0);
        for (Class<?> inside : face.getDeclaredClasses()) {
            if (Modifier.isPublic(inside.getModifiers()) || Modifier.isProtected(inside.getModifiers())) {
                EXPECT.complain(inside.getName(), "can be seen from outside");
            }
        }
    }

    private static void mustBeHidden(Member member, boolean isFace) {
        if (!isFace && !Modifier.isPrivate(member.getModifiers()) && !member.isSynthetic()) {
            EXPECT.complain(member.getName(), "is not private");
        }
    }

    private static void compare(String what, Set<String> got, Set<String> due) {
        if (!got.equals(due)) {
            EXPECT.complain(what, "are " + got + ", due is " + due);
        }
    }
}
