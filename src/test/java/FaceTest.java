import java.lang.reflect.Field;
import java.lang.reflect.Method;
import java.lang.reflect.Modifier;
import java.util.Set;
import java.util.TreeSet;

/** The public face is the document's, and nothing more can be seen from outside. */
public final class FaceTest {
    private static final String[] FACE = {
        "int role() IllegalStateException",
        "int user() IllegalStateException",
        "boolean above(int int) IndexOutOfBoundsException IllegalArgumentException IllegalStateException",
        "boolean grant(int int) IndexOutOfBoundsException",
        "void limit(boolean int int) IllegalArgumentException IllegalStateException",
        "int giveRule(int int int int) IndexOutOfBoundsException IllegalArgumentException IllegalStateException",
        "int takeRule(int int) IndexOutOfBoundsException IllegalStateException",
        "boolean assign(int int) IndexOutOfBoundsException IllegalStateException",
        "boolean remove(int int) IndexOutOfBoundsException",
        "boolean give(int int int) IndexOutOfBoundsException UnsupportedOperationException IllegalStateException",
        "boolean take(int int int) IndexOutOfBoundsException UnsupportedOperationException",
        "int roles(int boolean) IndexOutOfBoundsException",
        "int open(int) IndexOutOfBoundsException IllegalStateException",
        "void close(int) IndexOutOfBoundsException",
        "boolean activate(int int) IndexOutOfBoundsException UnsupportedOperationException IllegalStateException",
        "boolean rest(int int) IndexOutOfBoundsException",
        "int active(int) IndexOutOfBoundsException",
        "boolean may(int int) IndexOutOfBoundsException",
        "int distance(int int) IndexOutOfBoundsException UnsupportedOperationException",
        "int plan(int int int) IndexOutOfBoundsException UnsupportedOperationException IllegalStateException",
    };

    public static void main(String[] args) {
        Check.same("NONE", -1, RoleAnalyser.NONE);
        Check.same("class modifiers", Modifier.PUBLIC | Modifier.FINAL, RoleAnalyser.class.getModifiers());
        Check.same("constructors", 1, RoleAnalyser.class.getDeclaredConstructors().length);
        Check.same("public constructors", 1, RoleAnalyser.class.getConstructors().length);
        Check.same("methods", new TreeSet<>(Set.of(FACE)), visibleMethods());
        Check.same("fields", Set.of("NONE"), visibleFields());
        Check.same("modifiers of NONE", Modifier.PUBLIC | Modifier.STATIC | Modifier.FINAL, modifiersOfNone());
        Check.same("classes inside that are seen or not static", Set.of(), openClasses());
        Check.same("hidden methods with a name of the face", Set.of(), hiddenNamesakes());
        Check.end();
    }

    private static int modifiersOfNone() {
        try {
            return RoleAnalyser.class.getDeclaredField("NONE").getModifiers();
        } catch (NoSuchFieldException e) {
            return 0;
        }
    }

    private static Set<String> openClasses() {
        Set<String> seen = new TreeSet<>();
        for (Class<?> inside : RoleAnalyser.class.getDeclaredClasses()) {
            int modifiers = inside.getModifiers();
            if (Modifier.isPublic(modifiers) || Modifier.isProtected(modifiers) || !Modifier.isStatic(modifiers)) {
                seen.add(inside.getSimpleName());
            }
        }
        return seen;
    }

    private static Set<String> hiddenNamesakes() {
        Set<String> face = new TreeSet<>();
        for (Method method : RoleAnalyser.class.getMethods()) {
            face.add(method.getName());
        }
        Set<String> hidden = new TreeSet<>();
        for (Method method : RoleAnalyser.class.getDeclaredMethods()) {
            if (Modifier.isPrivate(method.getModifiers())) {
                hidden.add(method.getName());
            }
        }
        for (Class<?> inside : RoleAnalyser.class.getDeclaredClasses()) {
            for (Method method : inside.getDeclaredMethods()) {
                hidden.add(method.getName());
            }
        }
        hidden.retainAll(face);
        return hidden;
    }

    private static Set<String> visibleMethods() {
        Set<String> seen = new TreeSet<>();
        for (Method method : RoleAnalyser.class.getDeclaredMethods()) {
            if (!Modifier.isPrivate(method.getModifiers())) {
                seen.add(written(method));
            }
        }
        return seen;
    }

    private static Set<String> visibleFields() {
        Set<String> seen = new TreeSet<>();
        for (Field field : RoleAnalyser.class.getDeclaredFields()) {
            if (!Modifier.isPrivate(field.getModifiers())) {
                seen.add(field.getName());
            }
        }
        return seen;
    }

    private static String written(Method method) {
        StringBuilder text = new StringBuilder(method.getReturnType().getSimpleName());
        text.append(' ').append(method.getName()).append('(');
        String gap = "";
        for (Class<?> type : method.getParameterTypes()) {
            text.append(gap).append(type.getSimpleName());
            gap = " ";
        }
        text.append(')');
        for (Class<?> thrown : method.getExceptionTypes()) {
            text.append(' ').append(thrown.getSimpleName());
        }
        return text.toString();
    }
}
