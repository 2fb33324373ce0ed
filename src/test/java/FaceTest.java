import java.lang.reflect.Constructor;
import java.lang.reflect.Field;
import java.lang.reflect.Method;
import java.lang.reflect.Modifier;
import java.util.Arrays;
import java.util.Set;
import java.util.TreeSet;

/** The face is the document's and nothing more (LANGUAGE.md, rules 1 and 5). */
public final class FaceTest {
    private static final String[] FACE = {
        "int begin(int) IllegalArgumentException IllegalStateException",
        "int branch(int) IndexOutOfBoundsException IllegalStateException",
        "int setNote(int,int,int,int) IndexOutOfBoundsException IllegalArgumentException IllegalStateException",
        "int note(int,int,int) IndexOutOfBoundsException",
        "int base(int,int) IndexOutOfBoundsException",
        "int conflicts(int,int) IndexOutOfBoundsException IllegalStateException",
        "int merge(int,int) IndexOutOfBoundsException IllegalArgumentException IllegalStateException",
        "int setWeight(int,int) IndexOutOfBoundsException IllegalArgumentException",
        "int setPass(int) IllegalArgumentException",
        "int faults(int,int,int) IndexOutOfBoundsException",
        "int mark(int) IndexOutOfBoundsException",
        "boolean handIn(int) IndexOutOfBoundsException",
        "int fallen()",
        "int best(int,int,int) IndexOutOfBoundsException",
        "float movement(int,int) IndexOutOfBoundsException",
        "int print(int,int) IndexOutOfBoundsException IllegalStateException",
        "int errata(int,int) IndexOutOfBoundsException IllegalStateException",
        "int slip(int,int) IndexOutOfBoundsException IllegalStateException",
        "int slips(int) IndexOutOfBoundsException",
    };

    public static void main(String[] args) {
        Expect expect = new Expect();
        Class<?> desk = HarmoniumDesk.class;
        Set<String> publicNames = new TreeSet<>();
        Set<String> face = new TreeSet<>();
        for (Method method : desk.getDeclaredMethods()) {
            if (Modifier.isPublic(method.getModifiers())) {
                face.add(signature(method));
                publicNames.add(method.getName());
            }
        }
        expect.holds("the face is " + face, face.equals(new TreeSet<>(Arrays.asList(FACE))));
        expect.holds("the class is public and final",
                Modifier.isPublic(desk.getModifiers()) && Modifier.isFinal(desk.getModifiers()));
        checkConstructor(expect, desk);
        checkHidden(expect, desk, publicNames);
        for (Class<?> inside : desk.getDeclaredClasses()) {
            checkInside(expect, inside, publicNames);
        }
        expect.finish();
    }

    private static String signature(Method method) {
        StringBuilder text = new StringBuilder(method.getReturnType().getName());
        text.append(' ').append(method.getName()).append('(');
        String between = "";
        for (Class<?> parameter : method.getParameterTypes()) {
            text.append(between).append(parameter.getName());
            between = ",";
        }
        text.append(')');
        for (Class<?> exception : method.getExceptionTypes()) {
            text.append(' ').append(exception.getSimpleName());
        }
        return text.toString();
    }

    private static void checkConstructor(Expect expect, Class<?> desk) {
        Constructor<?>[] constructors = desk.getDeclaredConstructors();
        expect.answers("constructors", 1, () -> constructors.length);
        expect.answers("parameters of the constructor", 0, () -> constructors[0].getParameterCount());
        expect.holds("the constructor is public", Modifier.isPublic(constructors[0].getModifiers()));
    }

    private static void checkHidden(Expect expect, Class<?> desk, Set<String> publicNames) {
        for (Method method : desk.getDeclaredMethods()) {
            int modifiers = method.getModifiers();
            if (!Modifier.isPublic(modifiers)) {
                expect.holds(method + " is private", Modifier.isPrivate(modifiers));
                expect.holds(method + " has a name of its own", !publicNames.contains(method.getName()));
            }
        }
        for (Field field : desk.getDeclaredFields()) {
            expect.holds(field + " is private", Modifier.isPrivate(field.getModifiers()));
            checkStatic(expect, field);
        }
    }

    private static void checkInside(Expect expect, Class<?> inside, Set<String> publicNames) {
        int modifiers = inside.getModifiers();
        expect.holds(inside + " is hidden", !Modifier.isPublic(modifiers) && !Modifier.isProtected(modifiers));
        expect.holds(inside + " is static", Modifier.isStatic(modifiers));
        for (Method method : inside.getDeclaredMethods()) {
            expect.holds(method + " has a name of its own", !publicNames.contains(method.getName()));
        }
        for (Field field : inside.getDeclaredFields()) {
            checkStatic(expect, field);
        }
    }

    private static void checkStatic(Expect expect, Field field) {
        int modifiers = field.getModifiers();
        expect.holds(field + " is final if it is static", !Modifier.isStatic(modifiers) || Modifier.isFinal(modifiers));
    }
}
