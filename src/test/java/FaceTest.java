import java.lang.reflect.Constructor;
import java.lang.reflect.Field;
import java.lang.reflect.Method;
import java.lang.reflect.Modifier;
import java.util.Arrays;
import java.util.Set;
import java.util.TreeSet;
import java.util.stream.Collectors;

/** The public face is the document's and nothing more; the fields keep to LANGUAGE.md's rules 1, 5 and 11. */
public final class FaceTest {
    private static final Set<String> FACE = new TreeSet<>(Set.of(
        "int person(int) IllegalArgumentException IllegalStateException",
        "int off(int,int,int) NoSuchElementException IllegalArgumentException IllegalStateException",
        "int task(int,int,int,boolean) NoSuchElementException IllegalArgumentException IllegalStateException",
        "int rest(int) IllegalArgumentException",
        "int limit(int) IllegalArgumentException",
        "int freeze(int) IllegalArgumentException",
        "int run()",
        "int told()",
        "int of(int) NoSuchElementException",
        "int cost() IllegalStateException",
        "int absent(int,int) NoSuchElementException IllegalArgumentException IllegalStateException",
        "int changed(int) NoSuchElementException",
        "int swap(int,int) NoSuchElementException IllegalStateException",
        "int work(int) NoSuchElementException",
        "int fair()",
        "int count(int) NoSuchElementException"));

    private static final Set<Class<?>> CONSTANTS = Set.of(int.class, long.class, boolean.class, char.class,
        String.class, int[].class, long[].class, char[].class, byte[].class);

    private static int wrong = 0;

    public static void main(String[] args) {
        Class<?> face = GuidePlans.class;
        check(Modifier.isPublic(face.getModifiers()), "the class is public");
        check(Modifier.isFinal(face.getModifiers()), "the class is final");
        checkMethods(face);
        checkConstructors(face);
        checkFields(face);
        for (Class<?> inside : face.getDeclaredClasses()) {
            check(Modifier.isStatic(inside.getModifiers()), inside + " is static");
            checkStaticFields(inside);
            for (Method m : inside.getDeclaredMethods()) {
                check(m.getParameterCount() <= 7, m + " has at most seven parameters");
            }
        }
        System.out.println(wrong == 0 ? "the face is as due" : wrong + " things about the face are wrong");
        if (wrong != 0) {
            System.exit(1);
        }
    }

    private static void check(boolean holds, String what) {
        if (!holds) {
            wrong++;
            System.out.println("not so: " + what);
        }
    }

    private static void checkMethods(Class<?> face) {
        Set<String> found = new TreeSet<>();
        Set<String> names = new TreeSet<>();
        for (Method m : face.getDeclaredMethods()) {
            if (!Modifier.isPrivate(m.getModifiers())) {
                check(Modifier.isPublic(m.getModifiers()), m + " is public or private");
                check(!Modifier.isStatic(m.getModifiers()), m + " is of an object");
                found.add(signature(m));
                names.add(m.getName());
            }
        }
        check(found.equals(FACE), "methods are " + FACE + ", found " + found);
        for (Method m : face.getDeclaredMethods()) {
            check(!Modifier.isPrivate(m.getModifiers()) || !names.contains(m.getName()), m + " has a name of its own");
        }
    }

    private static String signature(Method m) {
        String parameters = names(m.getParameterTypes(), ",");
        String thrown = names(m.getExceptionTypes(), " ");
        String call = m.getReturnType().getSimpleName() + " " + m.getName() + "(" + parameters + ")";
        return thrown.isEmpty() ? call : call + " " + thrown;
    }

    private static String names(Class<?>[] types, String between) {
        return Arrays.stream(types).map(Class::getSimpleName).collect(Collectors.joining(between));
    }

    private static void checkConstructors(Class<?> face) {
        Constructor<?>[] all = face.getDeclaredConstructors();
        check(all.length == 1 && Modifier.isPublic(all[0].getModifiers()) && all[0].getParameterCount() == 0,
            "there is one constructor, public and without parameters");
    }

    private static void checkFields(Class<?> face) {
        for (Field f : face.getDeclaredFields()) {
            boolean constant = f.getName().equals("NONE");
            check(constant == Modifier.isPublic(f.getModifiers()), f + " is public only if it is NONE");
            check(constant || Modifier.isPrivate(f.getModifiers()), f + " is private");
        }
        checkStaticFields(face);
        check(GuidePlans.NONE == -1, "NONE is -1");
    }

    private static void checkStaticFields(Class<?> one) {
        int ofObjects = 0;
        for (Field f : one.getDeclaredFields()) {
            if (f.isSynthetic()) {
                continue;
            }
            if (Modifier.isStatic(f.getModifiers())) {
                check(Modifier.isFinal(f.getModifiers()), f + " is final");
                check(isOfConstants(f.getType()), f + " is of a type for constants");
            } else {
                ofObjects++;
            }
        }
        check(ofObjects <= 20, one + " has some twenty fields at most");
    }

    private static boolean isOfConstants(Class<?> type) {
        boolean ofEnum = type.isEnum() || type.isArray() && type.getComponentType().isEnum();
        return ofEnum || CONSTANTS.contains(type);
    }
}
