import java.lang.reflect.InvocationTargetException;
import java.lang.reflect.Method;
import java.util.Arrays;
import java.util.HashMap;
import java.util.Map;
import java.util.Random;

/** Runs of calls, the same ones each time, on the class and on the plain model side by side. */
public final class ModelTest {
    private static final int RUNS = 2500;
    /** With the look at everything at the end, a run stays under the document's 512 calls. */
    private static final int CALLS = 330;
    private static final int BEGINNING = 30;

    /** Each call as often as its number says, among those made at the beginning of a run. */
    private static final Object[] AT_FIRST = {"issue", 12, "terms", 3, "pledge", 3, "limit", 1};
    private static final Object[] LATER = {
        "issue", 1, "terms", 1, "pledge", 3, "release", 3, "limit", 5, "pay", 16, "deliver", 6,
        "exchange", 8, "cancel", 2, "prefer", 4, "resolve", 6, "advance", 1, "sync", 2, "crash", 1,
        "position", 4, "line", 1, "net", 3, "status", 4, "waiting", 3, "behind", 5};

    private static final Map<String, Method> REAL = methodsOf(GrossSettlement.class);
    private static final Map<String, Method> MODEL = methodsOf(PlainModel.class);

    private final Answers answers = new Answers();
    private final Map<String, Integer> reached = new HashMap<>();
    private Random random;
    private GrossSettlement real;
    private PlainModel model;
    private int participants;
    private int most;
    /** Where little is held, more waits. */
    private boolean isPoor;

    public static void main(String[] args) throws Exception {
        ModelTest test = new ModelTest();
        int rings = 0;
        for (int run = 0; run < RUNS && !test.answers.anyWrong(); run++) {
            test.run(run);
            rings += test.model.ringsFound;
        }
        test.answers.about("what the runs reach");
        test.answers.due(true, rings + " rings", rings > 500);
        for (String answer : new String[] {"pay -1", "pay -2", "pay -3", "pledge -4", "release -4", "limit -4",
                "pay 39", "terms 0", "terms 1", "pledge 1", "release 1", "limit 1", "cancel 1", "prefer 1", "resolve 5"}) {
            test.answers.due(true, answer, test.reached.getOrDefault(answer, 0) > 0);
        }
        test.answers.end();
    }

    private static Map<String, Method> methodsOf(Class<?> type) {
        Map<String, Method> methods = new HashMap<>();
        for (Method method : type.getDeclaredMethods()) {
            method.setAccessible(true);
            methods.put(method.getName(), method);
        }
        return methods;
    }

    private void run(int seed) throws Exception {
        answers.about("run " + seed);
        random = new Random(seed);
        real = new GrossSettlement();
        model = new PlainModel();
        participants = 2 + random.nextInt(5);
        most = new int[] {1000000, 60, 12, 6, 3, 2}[random.nextInt(6)];
        isPoor = random.nextInt(3) > 0;
        int n = 0;
        for (; n < BEGINNING; n++) {
            call(pick(AT_FIRST));
        }
        call("advance");
        for (; n < CALLS && !answers.anyWrong(); n++) {
            call(!model.isOpen() && random.nextInt(5) == 0 ? "advance" : pick(LATER));
        }
        lookAtAll();
    }

    private String pick(Object[] names) {
        int sum = 0;
        for (int i = 1; i < names.length; i += 2) {
            sum += (Integer) names[i];
        }
        int left = random.nextInt(sum);
        for (int i = 1; i < names.length; i += 2) {
            left -= (Integer) names[i];
            if (left < 0) {
                return (String) names[i - 1];
            }
        }
        throw new IllegalStateException();
    }

    private void call(String name) throws Exception {
        int p = participant();
        int q = other(p);
        Object[] arguments = switch (name) {
            case "issue" -> new Object[] {p, asset(), isPoor ? oddly(1, 1 + random.nextInt(3)) : amount()};
            case "terms" -> new Object[] {security(), oddly(1000, 1 + random.nextInt(40)), oddly(100, random.nextInt(101))};
            case "pledge", "release" -> new Object[] {p, security(), amount()};
            case "limit" -> new Object[] {p, q, random.nextInt(3) == 0 ? -1 : random.nextInt(9) == 0 ? 0 : amount()};
            case "pay" -> new Object[] {p, q, amount(), priority()};
            case "deliver" -> new Object[] {p, q, security(), amount()};
            case "exchange" -> new Object[] {p, q, security(), amount(), amount()};
            case "cancel", "status" -> new Object[] {number()};
            case "prefer" -> new Object[] {number(), priority()};
            case "resolve", "advance", "sync", "crash" -> new Object[] {};
            case "position" -> new Object[] {p, asset(), oddly(1, random.nextInt(2))};
            case "line" -> new Object[] {p};
            case "net" -> new Object[] {p, q};
            case "waiting", "behind" -> new Object[] {random.nextInt(12) - 1};
            default -> throw new IllegalStateException(name);
        };
        compare(name, arguments);
    }

    private void compare(String name, Object... arguments) throws Exception {
        long want = answer(MODEL.get(name), model, arguments);
        long got = answer(REAL.get(name), real, arguments);
        reached.merge(name + " " + want, 1, Integer::sum);
        answers.due(want, name + Arrays.toString(arguments), got);
    }

    private static long answer(Method method, Object object, Object[] arguments)
            throws IllegalAccessException, InvocationTargetException {
        Object answer = method.invoke(object, arguments);
        if (answer instanceof Boolean truth) {
            return truth ? 1 : 0;
        }
        return answer instanceof Number number ? number.longValue() : 0;
    }

    private int participant() {
        return random.nextInt(80) == 0 ? oddly(5, 0) : random.nextInt(participants);
    }

    private int other(int p) {
        int q = participant();
        return q == p && random.nextInt(20) > 0 ? (p + 1) % participants : q;
    }

    private int asset() {
        return oddly(2, random.nextInt(3));
    }

    private int security() {
        return random.nextInt(40) == 0 ? asset() : 1 + random.nextInt(2);
    }

    private int amount() {
        return oddly(1000000, 1 + random.nextInt(most));
    }

    private int priority() {
        return oddly(2, random.nextInt(3));
    }

    /** Now and then a number at or beyond an end of the range 0 .. last, else the usual one. */
    private int oddly(int last, int usual) {
        int[] odd = {-1, 0, last, last + 1, Integer.MIN_VALUE, Integer.MAX_VALUE};
        return random.nextInt(40) == 0 ? odd[random.nextInt(odd.length)] : usual;
    }

    /** Mostly one that waits, else any. */
    private int number() {
        int waits = model.waiting(random.nextInt(10));
        return random.nextInt(4) > 0 && waits >= 0 ? waits : oddly(40, random.nextInt(41));
    }

    private void lookAtAll() throws Exception {
        for (int p = 0; p < 6; p++) {
            compare("line", p);
            for (int asset = 0; asset < 3; asset++) {
                compare("position", p, asset, 0);
                compare("position", p, asset, 1);
            }
            for (int q = p + 1; q < 6; q++) {
                compare("net", p, q);
                compare("net", q, p);
            }
        }
        for (int i = 0; i < 41; i++) {
            compare("status", i);
        }
        for (int k = 0; k < 11; k++) {
            compare("waiting", k);
            compare("behind", k);
        }
    }
}
