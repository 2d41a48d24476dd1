import java.lang.reflect.Constructor;
import java.lang.reflect.Field;
import java.lang.reflect.Method;
import java.lang.reflect.Modifier;
import java.util.ArrayList;
import java.util.Arrays;
import java.util.HashSet;
import java.util.List;
import java.util.Set;
import java.util.TreeSet;

/** The public face: just what the document tells, with the exceptions that it names, and nothing else. */
public final class FaceTest {
    private static final String[] FACE = {
        "int machine(int) IllegalArgumentException IllegalStateException",
        "int tell(int,int,int,int,int,int) IndexOutOfBoundsException IllegalArgumentException IllegalStateException",
        "boolean amend(int,int,int,int,int,int) IndexOutOfBoundsException IllegalArgumentException IllegalStateException",
        "int child(int,int) IndexOutOfBoundsException IllegalArgumentException IllegalStateException",
        "int tag(int,int,int) IllegalArgumentException IllegalStateException",
        "boolean prove(int,int,int,int) IndexOutOfBoundsException IllegalArgumentException IllegalStateException",
        "int doubt(int) IllegalArgumentException",
        "int decide(int) IndexOutOfBoundsException IllegalStateException",
        "int cell(int,int,int,int) IndexOutOfBoundsException IllegalArgumentException",
        "int ofMachine(int,int) IndexOutOfBoundsException IllegalArgumentException",
        "int at(int,int,int) IndexOutOfBoundsException IllegalArgumentException",
        "int symbol(int,int,int) IndexOutOfBoundsException IllegalArgumentException",
        "double lean(int,int) IndexOutOfBoundsException IllegalArgumentException",
        "int meets(int,int,int,int) IndexOutOfBoundsException IllegalArgumentException",
        "int likeness(int,int) IndexOutOfBoundsException",
        "int champion(int) IllegalArgumentException",
        "int tagged(int,int,int) IndexOutOfBoundsException IllegalArgumentException",
        "int many(int) IllegalArgumentException",
        "double meanStop()",
        "int cycleIn(int,int) IndexOutOfBoundsException IllegalArgumentException",
        "int backIn(int) IndexOutOfBoundsException",
        "int gramIn(int) IndexOutOfBoundsException",
        "long digest()",
    };

    private final Checks checks = new Checks("FaceTest");

    public static void main(String[] args) {
        FaceTest test = new FaceTest();
        test.theClass();
        test.theMethods();
        test.whatIsPrivate();
        test.checks.end();
    }

    private void theClass() {
        int modifiers = Haltingale.class.getModifiers();
        checks.is("the class is public and final", true, () -> Modifier.isPublic(modifiers) && Modifier.isFinal(modifiers));
        checks.is("it is in no package", "", () -> Haltingale.class.getPackageName());
        checks.is("it extends nothing", Object.class, () -> Haltingale.class.getSuperclass());
        checks.is("it implements nothing", 0, () -> Haltingale.class.getInterfaces().length);
        Constructor<?>[] all = Haltingale.class.getDeclaredConstructors();
        checks.is("it has one constructor", 1, () -> all.length);
        checks.is("it is public", true, () -> Modifier.isPublic(all[0].getModifiers()));
        checks.is("it takes nothing", 0, () -> all[0].getParameterCount());
        checks.is("it throws nothing", 0, () -> all[0].getExceptionTypes().length);
    }

    private static String textOf(Method method) {
        List<String> types = new ArrayList<>();
        for (Class<?> type : method.getParameterTypes()) {
            types.add(type.getName());
        }
        StringBuilder text = new StringBuilder(method.getReturnType().getName() + " " + method.getName());
        text.append("(").append(String.join(",", types)).append(")");
        for (Class<?> type : method.getExceptionTypes()) {
            text.append(" ").append(type.getSimpleName());
        }
        return text.toString();
    }

    private void theMethods() {
        Set<String> got = new TreeSet<>();
        for (Method method : Haltingale.class.getDeclaredMethods()) {
            if (!Modifier.isPrivate(method.getModifiers()) && !method.isSynthetic()) {
                checks.is(method.getName() + " is public", true, () -> Modifier.isPublic(method.getModifiers()));
                checks.is(method.getName() + " is of an object", false, () -> Modifier.isStatic(method.getModifiers()));
                got.add(textOf(method));
            }
        }
        checks.is("the methods", new TreeSet<>(Arrays.asList(FACE)), () -> got);
    }

    private void whatIsPrivate() {
        for (Field field : Haltingale.class.getDeclaredFields()) {
            int modifiers = field.getModifiers();
            checks.is(field.getName() + " is private", true, () -> Modifier.isPrivate(modifiers));
            checks.is(field.getName() + " is final, if static", true,
                    () -> !Modifier.isStatic(modifiers) || Modifier.isFinal(modifiers));
        }
        Set<String> names = new HashSet<>();
        for (String method : FACE) {
            names.add(method.substring(method.indexOf(' ') + 1, method.indexOf('(')));
        }
        for (Method method : Haltingale.class.getDeclaredMethods()) {
            if (Modifier.isPrivate(method.getModifiers())) {
                checks.is(method.getName() + " has no public one's name", false, () -> names.contains(method.getName()));
            }
        }
        for (Class<?> inside : Haltingale.class.getDeclaredClasses()) {
            int modifiers = inside.getModifiers();
            checks.is(inside.getSimpleName() + " is static", true, () -> Modifier.isStatic(modifiers));
            checks.is(inside.getSimpleName() + " is not open", false,
                    () -> Modifier.isPublic(modifiers) || Modifier.isProtected(modifiers));
            for (Method method : inside.getDeclaredMethods()) {
                checks.is(method.getName() + " inside has no public one's name", false, () -> names.contains(method.getName()));
            }
        }
    }
}
