import java.lang.reflect.Constructor;
import java.lang.reflect.Field;
import java.lang.reflect.Method;
import java.lang.reflect.Modifier;
import java.util.Arrays;
import java.util.Set;
import java.util.TreeSet;

/** The public face is the document's and no more (LANGUAGE.md, rules 1, 5 and 11). */
public final class FaceTest {
    private static final String[] FACE = {
        "boolean issue(int,int,int)", "boolean terms(int,int,int)", "int pledge(int,int,int)",
        "int release(int,int,int)", "int limit(int,int,int)", "int pay(int,int,int,int)",
        "int deliver(int,int,int,int)", "int exchange(int,int,int,int,int)", "int cancel(int)",
        "int prefer(int,int)", "int resolve()", "int advance()", "void sync()", "void crash()",
        "long position(int,int,int)", "long line(int)", "long net(int,int)", "int status(int)",
        "int waiting(int)", "int behind(int)"};
    private static final Answers answers = new Answers();

    public static void main(String[] args) {
        Class<GrossSettlement> type = GrossSettlement.class;
        answers.about("the face");
        answers.due(true, "public and final", type.getModifiers() == (Modifier.PUBLIC | Modifier.FINAL));
        constants(type);
        constructors(type);
        methods(type);
        classesInside(type);
        answers.end();
    }

    private static void constants(Class<?> type) {
        answers.due(-1, "BAD", GrossSettlement.BAD);
        answers.due(-2, "SHUT", GrossSettlement.SHUT);
        answers.due(-3, "FULL", GrossSettlement.FULL);
        answers.due(-4, "SHORT", GrossSettlement.SHORT);
        Set<String> open = new TreeSet<>();
        for (Field field : type.getDeclaredFields()) {
            if (!Modifier.isPrivate(field.getModifiers())) {
                open.add(field.getType() + " " + field.getName());
                answers.due(true, field + " is a constant", Modifier.isPublic(field.getModifiers())
                    && Modifier.isStatic(field.getModifiers()) && Modifier.isFinal(field.getModifiers()));
            }
        }
        answers.due(true, "the constants are " + open,
            open.equals(Set.of("int BAD", "int SHUT", "int FULL", "int SHORT")));
    }

    private static void constructors(Class<?> type) {
        Constructor<?>[] all = type.getDeclaredConstructors();
        answers.due(1, "constructors", all.length);
        answers.due(true, "public without parameters",
            Modifier.isPublic(all[0].getModifiers()) && all[0].getParameterCount() == 0);
    }

    private static void methods(Class<?> type) {
        Set<String> open = new TreeSet<>();
        Set<String> openNames = new TreeSet<>();
        for (Method method : type.getDeclaredMethods()) {
            if (!Modifier.isPrivate(method.getModifiers())) {
                open.add(signature(method));
                openNames.add(method.getName());
            }
        }
        answers.due(true, "the methods are " + open, open.equals(new TreeSet<>(Arrays.asList(FACE))));
        for (Method method : type.getDeclaredMethods()) {
            if (Modifier.isPrivate(method.getModifiers())) {
                answers.due(false, method + " has a public one's name", openNames.contains(method.getName()));
            }
            answers.due(true, method + " has seven parameters at most", method.getParameterCount() <= 7);
        }
    }

    private static String signature(Method method) {
        StringBuilder text = new StringBuilder();
        text.append(method.getReturnType()).append(' ').append(method.getName()).append('(');
        for (Class<?> parameter : method.getParameterTypes()) {
            text.append(text.charAt(text.length() - 1) == '(' ? "" : ",").append(parameter);
        }
        return text.append(')').toString();
    }

    private static void classesInside(Class<?> type) {
        for (Class<?> inside : type.getDeclaredClasses()) {
            int modifiers = inside.getModifiers();
            answers.due(true, inside + " is static and not public", Modifier.isStatic(modifiers)
                && !Modifier.isPublic(modifiers) && !Modifier.isProtected(modifiers));
        }
    }
}
