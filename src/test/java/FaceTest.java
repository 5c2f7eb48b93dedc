import java.lang.reflect.Constructor;
import java.lang.reflect.Field;
import java.lang.reflect.Member;
import java.lang.reflect.Method;
import java.lang.reflect.Modifier;
import java.util.Arrays;
import java.util.Set;
import java.util.TreeSet;

/** The class has the document's face and no other member that can be seen from outside. */
public final class FaceTest {
    private static final Expect EXPECT = new Expect();

    public static void main(String[] args) {
        Class<?> face = StructureRows.class;
        if (!Modifier.isPublic(face.getModifiers()) || !Modifier.isFinal(face.getModifiers())) {
            EXPECT.complain("the class", "is not public and final");
        }
        compare("methods", publicMethods(face), new TreeSet<>(Arrays.asList(
                "int at(int, int) IndexOutOfBoundsException",
                "int check()",
                "int content(int, int, int) NoSuchElementException IllegalArgumentException"
                        + " UnsupportedOperationException",
                "int element(int, int) NoSuchElementException IllegalArgumentException"
                        + " UnsupportedOperationException",
                "int fault(int, int) IndexOutOfBoundsException",
                "int heading(int, int) NoSuchElementException IllegalArgumentException",
                "int map(int, int) IllegalArgumentException",
                "int outline(int, int) IndexOutOfBoundsException",
                "int parent(int, int) IllegalArgumentException",
                "int shows(int, int) IllegalArgumentException",
                "int span(int, int, int) NoSuchElementException IllegalArgumentException",
                "int untagged(int) IndexOutOfBoundsException",
                "int walk()",
                "int words(int, boolean) NoSuchElementException")));
        hidesTheRest(face);
        EXPECT.end();
    }

    private static Set<String> publicMethods(Class<?> face) {
        Set<String> found = new TreeSet<>();
        for (Method method : face.getDeclaredMethods()) {
            if (Modifier.isPublic(method.getModifiers())) {
                found.add(describe(method));
            }
        }
        return found;
    }

    private static String describe(Method method) {
        StringBuilder text = new StringBuilder();
        text.append(method.getReturnType().getSimpleName()).append(' ').append(method.getName()).append('(');
        String between = "";
        for (Class<?> type : method.getParameterTypes()) {
            text.append(between).append(type.getSimpleName());
            between = ", ";
        }
        text.append(')');
        for (Class<?> thrown : method.getExceptionTypes()) {
            text.append(' ').append(thrown.getSimpleName());
        }
        return text.toString();
    }

    private static void hidesTheRest(Class<?> face) {
        for (Method method : face.getDeclaredMethods()) {
            mustBeHidden(method, Modifier.isPublic(method.getModifiers()));
        }
        for (Field field : face.getDeclaredFields()) {
            mustBeHidden(field, false);
        }
        Constructor<?>[] constructors = face.getDeclaredConstructors();
        EXPECT.is("constructors", constructors.length, 1);
        EXPECT.is("the constructor's parameters", constructors[0].getParameterCount(), 0);
        for (Class<?> inside : face.getDeclaredClasses()) {
            if (Modifier.isPublic(inside.getModifiers()) || Modifier.isProtected(inside.getModifiers())) {
                EXPECT.complain(inside.getName(), "can be seen from outside");
            }
        }
    }

    private static void mustBeHidden(Member member, boolean isFace) {
        if (!isFace && !Modifier.isPrivate(member.getModifiers()) && !member.isSynthetic()) {
            EXPECT.complain(member.getName(), "is not private");
        }
    }

    private static void compare(String what, Set<String> got, Set<String> due) {
        if (!got.equals(due)) {
            EXPECT.complain(what, "are " + got + ", due is " + due);
        }
    }
}
