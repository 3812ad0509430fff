import java.lang.reflect.Constructor;
import java.lang.reflect.Field;
import java.lang.reflect.Method;
import java.lang.reflect.Modifier;
import java.util.Set;
import java.util.TreeSet;

/** The public face: the document's constants, constructor and methods, and no other. */
public final class FaceTest {
    private static final Check CHECK = new Check("FaceTest");
    private static final Set<String> METHODS = Set.of(
            "int code(int, boolean) IllegalArgumentException",
            "int symbol(int) IllegalArgumentException",
            "int send(int) IllegalArgumentException IllegalStateException",
            "int receive()",
            "int put(long, boolean) IllegalStateException",
            "int take()",
            "long word()",
            "int raw(int, int, int) IllegalArgumentException IllegalStateException",
            "boolean bend(int, int) IllegalArgumentException IndexOutOfBoundsException",
            "int lose(int, int, int) IllegalArgumentException",
            "int bit(int, int) IllegalArgumentException",
            "int count(int, int) IllegalArgumentException",
            "boolean isPlus(boolean)",
            "void clear()");

    public static void main(String[] args) {
        int modifiers = LineCoder.class.getModifiers();
        CHECK.same("public", Modifier.isPublic(modifiers), true);
        CHECK.same("final", Modifier.isFinal(modifiers), true);
        CHECK.same("NONE", LineCoder.NONE, -1);
        CHECK.same("BAD", LineCoder.BAD, -2);
        CHECK.same("SLIP", LineCoder.SLIP, -3);
        fields();
        methods();
        classesInside();
        Constructor<?>[] constructors = LineCoder.class.getDeclaredConstructors();
        CHECK.same("constructors", constructors.length, 1);
        CHECK.same("its parameters", constructors[0].getParameterCount(), 0);
        CHECK.same("its reach", Modifier.isPublic(constructors[0].getModifiers()), true);
        CHECK.end();
    }

    private static void fields() {
        for (Field field : LineCoder.class.getDeclaredFields()) {
            boolean open = Set.of("NONE", "BAD", "SLIP").contains(field.getName());
            int modifiers = field.getModifiers();
            CHECK.same(field + " is public", Modifier.isPublic(modifiers), open);
            CHECK.same(field + " is private", Modifier.isPrivate(modifiers), !open);
            if (Modifier.isStatic(modifiers)) {
                CHECK.same(field + " is final", Modifier.isFinal(modifiers), true);
            }
        }
    }

    private static void methods() {
        Set<String> open = new TreeSet<>();
        Set<String> names = new TreeSet<>();
        for (Method method : LineCoder.class.getDeclaredMethods()) {
            if (Modifier.isPublic(method.getModifiers())) {
                open.add(told(method));
                names.add(method.getName());
            }
        }
        CHECK.same("face " + open, open.equals(new TreeSet<>(METHODS)), true);
        for (Method method : LineCoder.class.getDeclaredMethods()) {
            if (!Modifier.isPublic(method.getModifiers())) {
                CHECK.same(method + " is private", Modifier.isPrivate(method.getModifiers()), true);
                CHECK.same(method + " has a public name", names.contains(method.getName()), false);
            }
        }
    }

    private static void classesInside() {
        for (Class<?> inside : LineCoder.class.getDeclaredClasses()) {
            int modifiers = inside.getModifiers();
            CHECK.same(inside + " is static", Modifier.isStatic(modifiers), true);
            CHECK.same(inside + " is open", Modifier.isPublic(modifiers)
                    || Modifier.isProtected(modifiers), false);
            for (Field field : inside.getDeclaredFields()) {
                if (Modifier.isStatic(field.getModifiers())) {
                    CHECK.same(field + " is final", Modifier.isFinal(field.getModifiers()), true);
                }
            }
        }
    }

    private static String told(Method method) {
        StringBuilder text = new StringBuilder();
        text.append(method.getReturnType().getSimpleName()).append(' ');
        text.append(method.getName()).append('(');
        String gap = "";
        for (Class<?> parameter : method.getParameterTypes()) {
            text.append(gap).append(parameter.getSimpleName());
            gap = ", ";
        }
        text.append(')');
        for (Class<?> thrown : method.getExceptionTypes()) {
            text.append(' ').append(thrown.getSimpleName());
        }
        return text.toString();
    }
}
