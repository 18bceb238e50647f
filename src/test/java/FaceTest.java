import java.lang.reflect.Constructor;
import java.lang.reflect.Field;
import java.lang.reflect.Member;
import java.lang.reflect.Method;
import java.lang.reflect.Modifier;
import java.util.Arrays;
import java.util.NoSuchElementException;
import java.util.TreeSet;

/** The public face of the document, and nothing beside it (LANGUAGE.md, rules 1 and 5). */
public final class FaceTest {
    private static final String[] FACE = {
        "long digest(long, long)", "long cipher(long, long)",
        "int load(int, long) IndexOutOfBoundsException IllegalStateException",
        "long sign(long)",
        "boolean print(int, int, int) IndexOutOfBoundsException IllegalArgumentException",
        "int check(int, int)",
        "int trust(long, int, int) IllegalArgumentException IllegalStateException",
        "boolean draw(long, long, long, long)",
        "int change(int, int, long) IllegalArgumentException IllegalStateException",
        "int inspect()", "int messages()",
        "long held(int, int) IllegalStateException IndexOutOfBoundsException",
        "long challenge()",
        "long prove(long, long, long, long) IllegalStateException IllegalArgumentException",
        "int command(int, long, long) IllegalStateException IllegalArgumentException"
                + " UnsupportedOperationException NoSuchElementException IndexOutOfBoundsException",
        "long answer(int)", "long needed(int, long) IllegalStateException",
        "long hidden(long) IllegalStateException", "int chip(int)",
    };

    public static void main(String[] args) {
        Class<?> face = DocumentChip.class;
        Expect.same("modifiers", face.getModifiers(), Modifier.PUBLIC | Modifier.FINAL);
        publicMethods(face);
        constructors(face);
        for (Field field : face.getDeclaredFields()) {
            Expect.same("private " + field.getName(), isPrivate(field), true);
        }
        TreeSet<String> names = new TreeSet<>();
        for (Method method : face.getDeclaredMethods()) {
            if (!isPrivate(method)) {
                names.add(method.getName());
            }
        }
        staticFields(face);
        for (Class<?> inside : face.getDeclaredClasses()) {
            insideClass(inside, names);
        }
        Expect.finish();
    }

    private static void publicMethods(Class<?> face) {
        TreeSet<String> found = new TreeSet<>();
        for (Method method : face.getDeclaredMethods()) {
            if (!isPrivate(method)) {
                Expect.same("public " + method.getName(), Modifier.isPublic(method.getModifiers()), true);
                found.add(written(method));
            }
        }
        TreeSet<String> due = new TreeSet<>(Arrays.asList(FACE));
        if (!found.equals(due)) {
            Expect.tell("methods " + found + ", due are " + due);
        }
    }

    private static void constructors(Class<?> face) {
        Constructor<?>[] all = face.getDeclaredConstructors();
        Expect.same("constructors", all.length, 1);
        Expect.same("public constructor", Modifier.isPublic(all[0].getModifiers()), true);
        Expect.same("of three ints",
                Arrays.equals(all[0].getParameterTypes(), new Class<?>[] {int.class, int.class, int.class}), true);
    }

    private static void insideClass(Class<?> inside, TreeSet<String> faceNames) {
        int modifiers = inside.getModifiers();
        Expect.same("static " + inside, Modifier.isStatic(modifiers), true);
        Expect.same("hidden " + inside, Modifier.isPublic(modifiers) || Modifier.isProtected(modifiers), false);
        for (Method method : inside.getDeclaredMethods()) {
            Expect.same("a name of the face: " + method, faceNames.contains(method.getName()), false);
        }
        staticFields(inside);
    }

    private static void staticFields(Class<?> any) {
        for (Field field : any.getDeclaredFields()) {
            if (Modifier.isStatic(field.getModifiers())) {
                Expect.same("final " + field, Modifier.isFinal(field.getModifiers()), true);
            }
        }
    }

    private static String written(Method method) {
        StringBuilder text = new StringBuilder();
        text.append(method.getReturnType().getSimpleName()).append(' ').append(method.getName()).append('(');
        for (Class<?> parameter : method.getParameterTypes()) {
            text.append(text.charAt(text.length() - 1) == '(' ? "" : ", ").append(parameter.getSimpleName());
        }
        text.append(')');
        for (Class<?> exception : method.getExceptionTypes()) {
            boolean known = exception == NoSuchElementException.class
                    || exception.getPackageName().equals("java.lang");
            text.append(' ').append(known ? exception.getSimpleName() : exception.getName());
        }
        return text.toString();
    }

    private static boolean isPrivate(Member member) {
        return Modifier.isPrivate(member.getModifiers());
    }
}
