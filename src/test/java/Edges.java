import java.lang.reflect.InvocationTargetException;
import java.lang.reflect.Method;
import java.lang.reflect.Modifier;
import java.util.Arrays;
import java.util.Comparator;

/**
 * What the tests of the edges share. A class that extends this one has a method without parameters
 * for each sentence of the document, which is told above the method, and run() finds them all.
 */
abstract class Edges {
    static final int BAD = -1;
    static final int SHUT = -2;
    static final int FULL = -3;
    static final int SHORT = -4;
    static final int MOST = 1000000;

    static final int[] NO_PARTICIPANTS = outside(0, 5);
    static final int[] NO_ASSETS = outside(0, 2);
    static final int[] NO_SECURITIES = outside(1, 2);
    static final int[] NO_AMOUNTS = outside(1, MOST);
    static final int[] NO_PRIORITIES = outside(0, 2);

    private final Answers answers = new Answers();
    /** A new object for each test. */
    GrossSettlement x;

    interface Call {
        long on(GrossSettlement x);
    }

    /** The nearest on each side, the least and the greatest int, and such as are inside when cut to fewer bits. */
    static int[] outside(int least, int most) {
        return new int[] {least - 1, most + 1, least - 256, most + 65536,
            Integer.MIN_VALUE, Integer.MIN_VALUE + most, Integer.MAX_VALUE};
    }

    static void run(Edges test) throws Exception {
        Method[] methods = test.getClass().getDeclaredMethods();
        Arrays.sort(methods, Comparator.comparing(Method::getName));
        int tests = 0;
        for (Method method : methods) {
            int modifiers = method.getModifiers();
            if (method.getParameterCount() > 0 || Modifier.isPrivate(modifiers) || Modifier.isStatic(modifiers)) {
                continue;
            }
            tests++;
            test.answers.about(method.getName());
            test.x = new GrossSettlement();
            int asked = test.answers.asked();
            try {
                method.invoke(test);
            } catch (InvocationTargetException e) {
                test.answers.due("no exception", "the test", String.valueOf(e.getCause()));
            }
            test.answers.due(true, "the test asks something", test.answers.asked() > asked);
        }
        System.out.println(tests + " tests");
        test.answers.end();
    }

    void due(long want, String call, long got) {
        answers.due(want, call, got);
    }

    void due(boolean want, String call, boolean got) {
        answers.due(want, call, got);
    }

    /** What p holds of money and both securities. */
    void holds(int p, long money, long first, long second) {
        due(money, "money of " + p, x.position(p, 0, 0));
        due(first, "security 1 of " + p, x.position(p, 1, 0));
        due(second, "security 2 of " + p, x.position(p, 2, 0));
    }

    void order(int... numbers) {
        for (int k = 0; k < numbers.length; k++) {
            due(numbers[k], "waiting(" + k + ")", x.waiting(k));
        }
        due(BAD, "waiting(" + numbers.length + ")", x.waiting(numbers.length));
    }

    void statuses(int first, int last, int want) {
        for (int i = first; i <= last; i++) {
            due(want, "status(" + i + ")", x.status(i));
        }
    }

    void behinds(int... counts) {
        for (int k = 0; k < counts.length; k++) {
            due(counts[k], "behind(" + k + ")", x.behind(k));
        }
    }

    /** The call answers what it wants to in this scene, and nothing is other than without it. */
    void refused(Scene scene, long want, String text, Call call) {
        String name = scene + ", " + text;
        due(want, name, call.on(scene.made()));
        Probes after = Probes.of(y -> {
            scene.set(y);
            call.on(y);
        });
        String difference = scene.probes().differenceTo(after);
        answers.due("nothing changed", name, difference == null ? "nothing changed" : difference + " changed");
    }

    private static String text(String name, int... arguments) {
        String list = Arrays.toString(arguments);
        return name + "(" + list.substring(1, list.length() - 1) + ")";
    }

    void noIssue(Scene scene, int p, int asset, int amount) {
        refused(scene, 0, text("issue", p, asset, amount), y -> y.issue(p, asset, amount) ? 1 : 0);
    }

    void noTerms(Scene scene, int security, int price, int haircut) {
        refused(scene, 0, text("terms", security, price, haircut), y -> y.terms(security, price, haircut) ? 1 : 0);
    }

    void noPledge(Scene scene, int want, int p, int security, int amount) {
        refused(scene, want, text("pledge", p, security, amount), y -> y.pledge(p, security, amount));
    }

    void noRelease(Scene scene, int want, int p, int security, int amount) {
        refused(scene, want, text("release", p, security, amount), y -> y.release(p, security, amount));
    }

    void noLimit(Scene scene, int want, int p, int q, int amount) {
        refused(scene, want, text("limit", p, q, amount), y -> y.limit(p, q, amount));
    }

    void noPay(Scene scene, int want, int p, int q, int amount, int priority) {
        refused(scene, want, text("pay", p, q, amount, priority), y -> y.pay(p, q, amount, priority));
    }

    void noDeliver(Scene scene, int want, int p, int q, int security, int amount) {
        refused(scene, want, text("deliver", p, q, security, amount), y -> y.deliver(p, q, security, amount));
    }

    void noExchange(Scene scene, int want, int[] arguments) {
        int[] a = arguments;
        refused(scene, want, text("exchange", a), y -> y.exchange(a[0], a[1], a[2], a[3], a[4]));
    }

    void noCancel(Scene scene, int i) {
        refused(scene, BAD, text("cancel", i), y -> y.cancel(i));
    }

    void noPrefer(Scene scene, int i, int priority) {
        refused(scene, BAD, text("prefer", i, priority), y -> y.prefer(i, priority));
    }
}
