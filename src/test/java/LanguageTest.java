import java.lang.reflect.Constructor;
import java.lang.reflect.Field;
import java.lang.reflect.Method;
import java.lang.reflect.Modifier;
import java.util.ArrayList;
import java.util.HashSet;
import java.util.List;
import java.util.Set;

/** What of the rules of ../shared/LANGUAGE.md can be seen of the compiled class. */
public final class LanguageTest {
    private static final Check CHECK = new Check("LanguageTest");
    private static final Class<?> PROGRAM = TrustedUpdates.class;

    public static void main(String[] args) {
        List<Class<?>> classes = new ArrayList<>(List.of(PROGRAM.getDeclaredClasses()));
        noPrivateMethodIsNamedLikeAPublicOne();
        for (Class<?> inside : classes) {
            classInside(inside);
        }
        classes.add(PROGRAM);
        CHECK.due("rule 11: some twelve classes at most", classes.size() <= 12, true);
        for (Class<?> one : classes) {
            fieldsOf(one);
            methodsOf(one);
        }
        CHECK.end();
    }

    private static void noPrivateMethodIsNamedLikeAPublicOne() {
        Set<String> face = new HashSet<>();
        for (Method method : PROGRAM.getDeclaredMethods()) {
            if (Modifier.isPublic(method.getModifiers())) {
                face.add(method.getName());
            }
        }
        for (Method method : PROGRAM.getDeclaredMethods()) {
            if (!Modifier.isPublic(method.getModifiers())) {
                CHECK.due("rule 1: another " + method.getName(), face.contains(method.getName()), false);
            }
        }
    }

    private static void classInside(Class<?> inside) {
        int modifiers = inside.getModifiers();
        CHECK.due("rule 1: " + inside + " is static", Modifier.isStatic(modifiers), true);
        CHECK.due("rule 1: " + inside + " is not public", Modifier.isPublic(modifiers), false);
        CHECK.due("rule 1: " + inside + " is not protected", Modifier.isProtected(modifiers), false);
        CHECK.due("rule 6: " + inside + " is no exception", Throwable.class.isAssignableFrom(inside), false);
    }

    private static void fieldsOf(Class<?> one) {
        int ofAnObject = 0;
        for (Field field : one.getDeclaredFields()) {
            if (Modifier.isStatic(field.getModifiers())) {
                CHECK.due("rule 5: " + field + " is final", Modifier.isFinal(field.getModifiers()), true);
            } else {
                ofAnObject++;
            }
        }
        CHECK.due("rule 11: some twenty fields at most in " + one, ofAnObject <= 20, true);
    }

    private static void methodsOf(Class<?> one) {
        for (Method method : one.getDeclaredMethods()) {
            CHECK.due("rule 11: seven parameters at most in " + method, method.getParameterCount() <= 7, true);
            CHECK.due("rule 6: not synchronized, " + method, Modifier.isSynchronized(method.getModifiers()), false);
        }
        for (Constructor<?> constructor : one.getDeclaredConstructors()) {
            CHECK.due("rule 11: seven parameters at most in " + constructor, constructor.getParameterCount() <= 7,
                    true);
        }
    }
}
