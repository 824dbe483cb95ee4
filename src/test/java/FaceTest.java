import java.lang.reflect.Constructor;
import java.lang.reflect.Field;
import java.lang.reflect.Method;
import java.lang.reflect.Modifier;
import java.util.Arrays;
import java.util.Set;
import java.util.TreeSet;

/** The face is the document's and no other member can be seen (LANGUAGE.md, rules 1 and 5). */
public final class FaceTest {
    private static final String BAD = "IllegalArgumentException";
    private static final String MISSING = "IllegalArgumentException,NoSuchElementException";
    private static final Set<String> FACE = Set.of(
        "public void code(int,int,int,int,int) " + BAD,
        "public int run(int) IllegalArgumentException,IllegalStateException",
        "public int register(int,int) " + MISSING,
        "public int told(int,int) " + MISSING,
        "public int page(int,int) " + MISSING,
        "public int memory(int,int) " + BAD,
        "public int object(int,int) " + BAD,
        "public int written(int,int) " + BAD,
        "public int count(int) ");

    public static void main(String[] args) {
        if (Modifier.toString(GuestKernel.class.getModifiers()).equals("public final")) {
            methods();
            constructors();
            fields();
            nested();
        } else {
            Check.tell("the class isn't public and final");
        }
        Check.end();
    }

    private static void methods() {
        Set<String> seen = new TreeSet<>();
        Set<String> names = new TreeSet<>();
        for (Method method : GuestKernel.class.getDeclaredMethods()) {
            if (!Modifier.isPrivate(method.getModifiers())) {
                seen.add(written(method));
                names.add(method.getName());
            }
        }
        if (!seen.equals(new TreeSet<>(FACE))) {
            Check.tell("the face is " + seen);
        }
        for (Method method : GuestKernel.class.getDeclaredMethods()) {
            if (Modifier.isPrivate(method.getModifiers()) && names.contains(method.getName())) {
                Check.tell("a private method bears the name " + method.getName());
            }
        }
    }

    private static String written(Method method) {
        return Modifier.toString(method.getModifiers()) + " " + method.getReturnType().getSimpleName() + " "
            + method.getName() + "(" + names(method.getParameterTypes()) + ") " + names(method.getExceptionTypes());
    }

    private static String names(Class<?>[] types) {
        return String.join(",", Arrays.stream(types).map(Class::getSimpleName).toList());
    }

    private static void constructors() {
        Constructor<?>[] all = GuestKernel.class.getDeclaredConstructors();
        Check.due("constructors", 1, all.length);
        Check.due("parameters of the constructor", 0, all[0].getParameterCount());
        Check.due("the constructor's modifiers", Modifier.PUBLIC, all[0].getModifiers());
    }

    private static void fields() {
        for (Field field : GuestKernel.class.getDeclaredFields()) {
            if (!Modifier.isPrivate(field.getModifiers())) {
                Check.tell("the field " + field.getName() + " can be seen");
            }
            if (Modifier.isStatic(field.getModifiers()) && !Modifier.isFinal(field.getModifiers())) {
                Check.tell("the static field " + field.getName() + " isn't final");
            }
        }
    }

    private static void nested() {
        for (Class<?> inside : GuestKernel.class.getDeclaredClasses()) {
            int modifiers = inside.getModifiers();
            if (!Modifier.isStatic(modifiers) || Modifier.isPublic(modifiers) || Modifier.isProtected(modifiers)) {
                Check.tell("the class " + inside.getSimpleName() + " isn't static, or can be seen outside");
            }
        }
    }
}
