import java.util.ArrayList;
import java.util.Arrays;
import java.util.List;
import java.util.function.Consumer;

/**
 * All that objects in one state let on of it, also what no single call answers: the day, limits,
 * terms, priorities, what the instructions say, and what is sure. Most of this can only be found out
 * by calls that change it, so each probe has an object of its own; each makes fewer than 512 calls.
 */
final class Probes {
    private static final int MOST = 1000000;

    private final List<String> names = new ArrayList<>();
    private final List<long[]> answers = new ArrayList<>();
    private long[] seen = new long[512];
    private int size = 0;

    private Probes() {
    }

    static Probes of(Consumer<GrossSettlement> scene) {
        Probes probes = new Probes();
        probes.all("", scene);
        probes.all("after a crash, ", scene.andThen(GrossSettlement::crash));
        return probes;
    }

    /** The first probe that sees another thing than the other's, or null. */
    String differenceTo(Probes other) {
        for (int i = 0; i < names.size(); i++) {
            if (!Arrays.equals(answers.get(i), other.answers.get(i))) {
                return names.get(i);
            }
        }
        return null;
    }

    private void all(String when, Consumer<GrossSettlement> scene) {
        probe(when + "all that can be asked", scene, this::look);
        probe(when + "the day", scene, this::day);
        probe(when + "the prices and haircuts", scene, this::terms);
        probe(when + "the priorities", scene, this::priorities);
        probe(when + "what the instructions say", scene, this::contents);
        probe(when + "what is resolved", scene, this::resolved);
        for (int p = 0; p < 6; p++) {
            for (int q = 0; q < 6; q++) {
                int from = p;
                int to = q;
                if (p != q) {
                    probe(when + "the limit of " + p + " to " + q, scene, x -> limit(x, from, to));
                }
            }
        }
    }

    private void probe(String name, Consumer<GrossSettlement> scene, Consumer<GrossSettlement> probe) {
        GrossSettlement x = new GrossSettlement();
        scene.accept(x);
        size = 0;
        probe.accept(x);
        names.add(name);
        answers.add(Arrays.copyOf(seen, size));
    }

    private void see(long answer) {
        seen[size] = answer;
        size++;
    }

    private void look(GrossSettlement x) {
        for (int p = 0; p < 6; p++) {
            see(x.line(p));
            for (int asset = 0; asset < 3; asset++) {
                see(x.position(p, asset, 0));
                see(x.position(p, asset, 1));
            }
            for (int q = 0; q < 6; q++) {
                see(x.net(p, q));
            }
        }
        for (int i = 0; i <= 40; i++) {
            see(x.status(i));
        }
        for (int k = 0; k <= 10; k++) {
            see(x.waiting(k));
            see(x.behind(k));
        }
    }

    private void day(GrossSettlement x) {
        see(x.advance());
        see(x.advance());
        see(x.advance());
        look(x);
    }

    private static void close(GrossSettlement x) {
        for (int i = 0; i < 3; i++) {
            if (x.advance() == 0) {
                return;
            }
        }
    }

    private void terms(GrossSettlement x) {
        close(x);
        for (int security = 1; security < 3; security++) {
            see(x.issue(5, security, 100) ? 1 : 0);
            see(x.pledge(5, security, 100));
            see(x.line(5));
        }
    }

    /** Those that wait are put before, among and behind the others. */
    private void priorities(GrossSettlement x) {
        int[] wait = new int[10];
        for (int k = 0; k < 10; k++) {
            wait[k] = x.waiting(k);
        }
        for (int i : wait) {
            for (int priority = 0; priority < 3 && i >= 0; priority++) {
                see(x.prefer(i, priority));
                for (int k = 0; k < 10; k++) {
                    see(x.waiting(k));
                }
            }
        }
    }

    private void contents(GrossSettlement x) {
        for (int p = 0; p < 6; p++) {
            for (int q = 0; q < 6; q++) {
                see(x.limit(p, q, -1));
            }
        }
        for (int k = 0; k < 10; k++) {
            see(x.cancel(x.waiting(0)));
        }
        look(x);
    }

    private void resolved(GrossSettlement x) {
        see(x.resolve());
        look(x);
    }

    /** What can be paid on a new day: the limits that the tests set are 0, 20, the greatest, or none. */
    private void limit(GrossSettlement x, int p, int q) {
        close(x);
        x.issue(p, 0, MOST);
        x.issue(p, 0, MOST);
        x.advance();
        for (int amount : new int[] {1, 20, 21, MOST}) {
            int i = x.pay(p, q, amount, 1);
            see(i);
            see(x.status(i));
            if (x.cancel(i) < 0) {
                x.pay(q, p, amount, 1);
            }
        }
        x.pay(p, q, MOST, 1);
        see(x.status(x.pay(p, q, 1, 1)));
    }
}
