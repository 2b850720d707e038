import java.util.Random;

/** Makes calls of a run on the class and on the model, with the same arguments each time for the same seed. */
final class RandomCalls {
    /** How many calls makeRing() makes at most. */
    static final int RING = 7;

    private final SideBySide both;
    private final Random random;
    private final int participants;
    private final int most;
    /** Where little is held, more waits. */
    private final boolean isPoor;

    RandomCalls(SideBySide both, int seed) {
        this.both = both;
        random = new Random(seed);
        participants = 2 + random.nextInt(5);
        most = new int[] {1000000, 60, 12, 6, 3, 2}[random.nextInt(6)];
        isPoor = random.nextInt(3) > 0;
    }

    /** True once in so many times. */
    boolean oneIn(int times) {
        return random.nextInt(times) == 0;
    }

    /** One of the names, each as often as the number after it says. */
    String pick(Object... names) {
        int sum = 0;
        for (int i = 1; i < names.length; i += 2) {
            sum += (Integer) names[i];
        }
        int left = random.nextInt(sum);
        for (int i = 1; i < names.length; i += 2) {
            left -= (Integer) names[i];
            if (left < 0) {
                return (String) names[i - 1];
            }
        }
        throw new IllegalStateException();
    }

    void make(String name) throws ReflectiveOperationException {
        int p = participant();
        int q = other(p);
        Object[] arguments = switch (name) {
            case "issue" -> new Object[] {p, asset(), isPoor ? oddly(1, 1 + random.nextInt(3)) : amount()};
            case "terms" -> new Object[] {security(), oddly(1000, 1 + random.nextInt(40)), oddly(100, random.nextInt(101))};
            case "pledge", "release" -> new Object[] {p, security(), amount()};
            case "limit" -> new Object[] {p, q, random.nextInt(3) == 0 ? -1 : random.nextInt(9) == 0 ? 0 : amount()};
            case "pay" -> new Object[] {p, q, amount(), priority()};
            case "deliver" -> new Object[] {p, q, security(), amount()};
            case "exchange" -> new Object[] {p, q, security(), amount(), amount()};
            case "cancel", "status" -> new Object[] {number()};
            case "prefer" -> new Object[] {number(), priority()};
            case "resolve", "advance", "sync", "crash" -> new Object[] {};
            case "position" -> new Object[] {p, asset(), oddly(1, random.nextInt(2))};
            case "line" -> new Object[] {p};
            case "net" -> new Object[] {p, q};
            case "waiting", "behind" -> new Object[] {random.nextInt(12) - 1};
            default -> throw new IllegalStateException(name);
        };
        both.compare(name, arguments);
    }

    /** Each of some pays or gives the next about the same, and the last the first; then RESOLVING. */
    void makeRing() throws ReflectiveOperationException {
        int members = 2 + random.nextInt(participants - 1);
        int about = 2 + random.nextInt(most);
        int asset = random.nextInt(3);
        for (int p = 0; p < members; p++) {
            int amount = Math.min(1000000, about + random.nextInt(3) / 2);
            if (asset == 0) {
                both.compare("pay", p, (p + 1) % members, amount, priority());
            } else {
                both.compare("deliver", p, (p + 1) % members, asset, amount);
            }
        }
        both.compare("resolve");
    }

    private int participant() {
        return random.nextInt(80) == 0 ? oddly(5, 0) : random.nextInt(participants);
    }

    private int other(int p) {
        int q = participant();
        return q == p && random.nextInt(20) > 0 ? (p + 1) % participants : q;
    }

    private int asset() {
        return oddly(2, random.nextInt(3));
    }

    private int security() {
        return random.nextInt(40) == 0 ? asset() : 1 + random.nextInt(2);
    }

    private int amount() {
        return oddly(1000000, 1 + random.nextInt(most));
    }

    private int priority() {
        return oddly(2, random.nextInt(3));
    }

    /** Now and then a number at or beyond an end of the range 0 .. last, else the usual one. */
    private int oddly(int last, int usual) {
        int[] odd = {-1, 0, last, last + 1, Integer.MIN_VALUE, Integer.MAX_VALUE};
        return random.nextInt(40) == 0 ? odd[random.nextInt(odd.length)] : usual;
    }

    /** Mostly one that waits, else any. */
    private int number() {
        int waits = both.model().waiting(random.nextInt(10));
        return random.nextInt(4) > 0 && waits >= 0 ? waits : oddly(40, random.nextInt(41));
    }
}
