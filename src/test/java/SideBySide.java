import java.lang.reflect.Method;
import java.util.Arrays;
import java.util.HashMap;
import java.util.Map;

/** The class and the plain model side by side: each call is made on both, and their answers are compared. */
final class SideBySide {
    /** For how many calls the document lets an object be used. */
    static final int MOST_CALLS = 512;
    /** How many of them lookAtAll() makes. */
    static final int LOOK = 6 * 7 + 6 * 5 + 41 + 2 * 11;

    private static final Map<String, Method> REAL = methodsOf(GrossSettlement.class);
    private static final Map<String, Method> MODEL = methodsOf(PlainModel.class);

    final Answers answers;
    /** How often a call had an answer, by the call's name and the answer. */
    final Map<String, Integer> reached = new HashMap<>();
    private GrossSettlement real;
    private PlainModel model;
    private int calls;

    SideBySide(Answers answers) {
        this.answers = answers;
    }

    private static Map<String, Method> methodsOf(Class<?> type) {
        Map<String, Method> methods = new HashMap<>();
        for (Method method : type.getDeclaredMethods()) {
            method.setAccessible(true);
            methods.put(method.getName(), method);
        }
        return methods;
    }

    void begin(String topic) {
        answers.about(topic);
        real = new GrossSettlement();
        model = new PlainModel();
        calls = 0;
    }

    PlainModel model() {
        return model;
    }

    int calls() {
        return calls;
    }

    boolean goesOn() {
        return calls < MOST_CALLS && !answers.anyWrong();
    }

    void compare(String name, Object... arguments) throws ReflectiveOperationException {
        calls++;
        long want = answer(MODEL.get(name), model, arguments);
        long got = answer(REAL.get(name), real, arguments);
        reached.merge(name + " " + want, 1, Integer::sum);
        answers.due(want, "call " + calls + ", " + name + Arrays.toString(arguments), got);
    }

    private static long answer(Method method, Object object, Object[] arguments) throws ReflectiveOperationException {
        Object answer = method.invoke(object, arguments);
        if (answer instanceof Boolean truth) {
            return truth ? 1 : 0;
        }
        return answer instanceof Number number ? number.longValue() : 0;
    }

    void lookAtAll() throws ReflectiveOperationException {
        for (int p = 0; p < 6; p++) {
            compare("line", p);
            for (int asset = 0; asset < 3; asset++) {
                compare("position", p, asset, 0);
                compare("position", p, asset, 1);
            }
            for (int q = p + 1; q < 6; q++) {
                compare("net", p, q);
                compare("net", q, p);
            }
        }
        for (int i = 0; i < 41; i++) {
            compare("status", i);
        }
        for (int k = 0; k < 11; k++) {
            compare("waiting", k);
            compare("behind", k);
        }
    }
}
