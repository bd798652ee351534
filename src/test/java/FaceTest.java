import java.lang.reflect.Constructor;
import java.lang.reflect.Field;
import java.lang.reflect.Method;
import java.lang.reflect.Modifier;
import java.util.Arrays;
import java.util.TreeSet;

/** The public face: the document's constants, constructor and methods, and nothing beside them. */
public final class FaceTest {
    private static final String[] METHODS = {
        "int put(int, int, long)",
        "int boundary(int, int, int)",
        "long bits(int, int)",
        "int operate(int, int, int, int, int)",
        "int assign(int, int, int, int, int)",
        "int convert(int, int, int, int)",
        "int narrow(int, int, int)",
        "int compare(int, int, int)",
        "int order(int, int, int)",
        "int sort(int, int)",
        "int series(int, int, int, int)",
        "int polynomial(int, int)",
    };

    public static void main(String[] args) {
        Bench.due("DONE", NumberProbe.DONE, 0);
        Bench.due("REFUSED", NumberProbe.REFUSED, -1);
        Bench.due("DIVIDE", NumberProbe.DIVIDE, -2);
        int modifiers = NumberProbe.class.getModifiers();
        isTrue("the class is public and final", Modifier.isPublic(modifiers) && Modifier.isFinal(modifiers));
        hasTheMethods();
        hasTheFields();
        hasOneConstructor();
        hidesTheClassesInside();
        namesNoPrivateMethodLikeAPublicOne();
        Bench.end();
    }

    private static void hasTheMethods() {
        TreeSet<String> found = new TreeSet<>();
        for (Method method : NumberProbe.class.getDeclaredMethods()) {
            if (!Modifier.isPrivate(method.getModifiers())) {
                found.add(described(method));
                isTrue(method + " is public, of an object", method.getModifiers() == Modifier.PUBLIC);
                isTrue(method + " declares no exception", method.getExceptionTypes().length == 0);
            }
        }
        isTrue("the methods are those of the document: " + found, found.equals(new TreeSet<>(Arrays.asList(METHODS))));
    }

    private static String described(Method method) {
        StringBuilder text = new StringBuilder();
        for (Class<?> type : method.getParameterTypes()) {
            text.append(text.length() == 0 ? "" : ", ").append(type.getName());
        }
        return method.getReturnType().getName() + " " + method.getName() + "(" + text + ")";
    }

    private static void hasTheFields() {
        TreeSet<String> found = new TreeSet<>();
        for (Field field : NumberProbe.class.getDeclaredFields()) {
            if (!Modifier.isPrivate(field.getModifiers())) {
                found.add(field.getType().getName() + " " + field.getName());
                isTrue(field + " is a constant",
                    field.getModifiers() == (Modifier.PUBLIC | Modifier.STATIC | Modifier.FINAL));
            }
        }
        TreeSet<String> named = new TreeSet<>(Arrays.asList("int DONE", "int REFUSED", "int DIVIDE"));
        isTrue("the fields are those of the document: " + found, found.equals(named));
    }

    private static void hasOneConstructor() {
        Constructor<?>[] constructors = NumberProbe.class.getDeclaredConstructors();
        isTrue("there is one constructor", constructors.length == 1);
        isTrue("it is public, without parameters",
            constructors[0].getParameterCount() == 0 && Modifier.isPublic(constructors[0].getModifiers()));
    }

    private static void hidesTheClassesInside() {
        for (Class<?> inside : NumberProbe.class.getDeclaredClasses()) {
            int modifiers = inside.getModifiers();
            boolean open = Modifier.isPublic(modifiers) || Modifier.isProtected(modifiers);
            isTrue(inside + " is private or package-visible", !open);
            isTrue(inside + " is static", Modifier.isStatic(modifiers));
        }
    }

    private static void namesNoPrivateMethodLikeAPublicOne() {
        TreeSet<String> publicNames = new TreeSet<>();
        for (Method method : NumberProbe.class.getMethods()) {
            publicNames.add(method.getName());
        }
        for (Method method : NumberProbe.class.getDeclaredMethods()) {
            boolean hidden = Modifier.isPrivate(method.getModifiers());
            isTrue(method + " has a name of its own", !hidden || !publicNames.contains(method.getName()));
        }
    }

    private static void isTrue(String what, boolean holds) {
        Bench.due(what, holds ? 1 : 0, 1);
    }
}
