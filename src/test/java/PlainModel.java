import java.util.ArrayList;
import java.util.HashMap;
import java.util.HashSet;
import java.util.List;
import java.util.Map;
import java.util.Set;
import java.util.TreeMap;
import java.util.TreeSet;

/**
 * The document once more, word by word and without regard to speed: positions have names,
 * GOING THROUGH looks at every position, and RESOLVING looks at every set.
 */
final class PlainModel {
    private static final int BAD = -1;
    private static final int SHUT = -2;
    private static final int FULL = -3;
    private static final int SHORT = -4;

    private record Transfer(int from, int to, int asset, int amount) { }

    private static final class Instruction {
        List<Transfer> transfers = new ArrayList<>();
        int number;
        int priority;
        int status;

        Instruction copy() {
            Instruction copy = new Instruction();
            copy.transfers = transfers;
            copy.number = number;
            copy.priority = priority;
            copy.status = status;
            return copy;
        }
    }

    private static final class State {
        int day = 0;
        Map<String, Long> held = new HashMap<>();
        Map<String, Long> pledged = new HashMap<>();
        Map<Integer, Integer> price = new HashMap<>();
        Map<Integer, Integer> haircut = new HashMap<>();
        Map<String, Integer> limit = new TreeMap<>();
        Map<String, Long> paid = new HashMap<>();
        List<Instruction> instructions = new ArrayList<>();

        State copy() {
            State copy = new State();
            copy.day = day;
            copy.held = new HashMap<>(held);
            copy.pledged = new HashMap<>(pledged);
            copy.price = new HashMap<>(price);
            copy.haircut = new HashMap<>(haircut);
            copy.limit = new TreeMap<>(limit);
            copy.paid = new HashMap<>(paid);
            for (Instruction it : instructions) {
                copy.instructions.add(it.copy());
            }
            return copy;
        }

        long held(int p, int asset) {
            return held.getOrDefault(p + "," + asset, 0L);
        }

        long pledged(int p, int asset) {
            return pledged.getOrDefault(p + "," + asset, 0L);
        }

        long line(int p) {
            long sum = 0;
            for (int security = 1; security <= 2; security++) {
                long full = pledged(p, security) * price.getOrDefault(security, 0);
                sum += full * (100 - haircut.getOrDefault(security, 0)) / 100;
            }
            return sum;
        }

        long net(int p, int q) {
            return paid.getOrDefault(p + " to " + q, 0L) - paid.getOrDefault(q + " to " + p, 0L);
        }

        boolean isAboveFloors() {
            for (int p = 0; p < 6; p++) {
                if (held(p, 0) < -line(p) || held(p, 1) < 0 || held(p, 2) < 0) {
                    return false;
                }
                for (int q = 0; q < 6; q++) {
                    Integer most = limit.get(p + " to " + q);
                    if (most != null && most - net(p, q) < 0) {
                        return false;
                    }
                }
            }
            return true;
        }

        void settle(int i) {
            Instruction it = instructions.get(i);
            it.status = 1;
            for (Transfer t : it.transfers) {
                held.merge(t.from + "," + t.asset, (long) -t.amount, Long::sum);
                held.merge(t.to + "," + t.asset, (long) t.amount, Long::sum);
                if (t.asset == 0) {
                    paid.merge(t.from + " to " + t.to, (long) t.amount, Long::sum);
                }
            }
        }

        Set<String> debits(Instruction it) {
            Set<String> positions = new HashSet<>();
            for (Transfer t : it.transfers) {
                positions.add(t.from + "," + t.asset);
                if (t.asset == 0 && limit.containsKey(t.from + " to " + t.to)) {
                    positions.add(t.from + " to " + t.to);
                }
            }
            return positions;
        }

        List<Instruction> order() {
            List<Instruction> order = new ArrayList<>();
            for (int priority = 0; priority <= 2; priority++) {
                for (Instruction it : instructions) {
                    if (it.status == 0 && it.priority == priority) {
                        order.add(it);
                    }
                }
            }
            return order;
        }

        List<Instruction> ahead(int k) {
            List<Instruction> order = order();
            Set<String> mine = debits(order.get(k));
            List<Instruction> ahead = new ArrayList<>();
            for (Instruction it : order.subList(0, k)) {
                Set<String> both = debits(it);
                both.retainAll(mine);
                if (!both.isEmpty()) {
                    ahead.add(it);
                }
            }
            return ahead;
        }
    }

    private State now = new State();
    private State sure = new State();
    /** How often RESOLVING settled something, for a look at what a test reaches. */
    int ringsFound = 0;

    boolean isOpen() {
        return now.day == 1;
    }

    int accepted() {
        return now.instructions.size();
    }

    int settled() {
        return (int) now.instructions.stream().filter(it -> it.status == 1).count();
    }

    private static boolean participant(int p) {
        return 0 <= p && p <= 5;
    }

    private static boolean two(int p, int q) {
        return participant(p) && participant(q) && p != q;
    }

    private static boolean amount(int amount) {
        return 1 <= amount && amount <= 1000000;
    }

    private static boolean security(int security) {
        return security == 1 || security == 2;
    }

    private static boolean priority(int priority) {
        return 0 <= priority && priority <= 2;
    }

    private int goThrough() {
        int settled = 0;
        boolean again = true;
        while (again) {
            again = false;
            List<Instruction> order = now.order();
            for (int k = 0; k < order.size() && !again; k++) {
                State then = now.copy();
                then.settle(order.get(k).number);
                if (now.ahead(k).isEmpty() && then.isAboveFloors()) {
                    now = then;
                    settled++;
                    again = true;
                }
            }
        }
        return settled;
    }

    boolean issue(int p, int asset, int amount) {
        if (!participant(p) || asset < 0 || asset > 2 || !amount(amount) || now.day != 0) {
            return false;
        }
        now.held.merge(p + "," + asset, (long) amount, Long::sum);
        return true;
    }

    boolean terms(int security, int price, int haircut) {
        if (!security(security) || price < 0 || price > 1000 || haircut < 0 || haircut > 100 || now.day != 0) {
            return false;
        }
        State then = now.copy();
        then.price.put(security, price);
        then.haircut.put(security, haircut);
        if (!then.isAboveFloors()) {
            return false;
        }
        now = then;
        return true;
    }

    int pledge(int p, int security, int amount) {
        return movePledge(p, security, amount, 1);
    }

    int release(int p, int security, int amount) {
        return movePledge(p, security, amount, -1);
    }

    private int movePledge(int p, int security, int amount, int sign) {
        if (!participant(p) || !security(security) || !amount(amount)) {
            return BAD;
        }
        State then = now.copy();
        then.held.merge(p + "," + security, (long) -sign * amount, Long::sum);
        then.pledged.merge(p + "," + security, (long) sign * amount, Long::sum);
        if (!then.isAboveFloors() || then.pledged(p, security) < 0) {
            return SHORT;
        }
        now = then;
        return goThrough();
    }

    int limit(int p, int q, int amount) {
        if (!two(p, q) || amount < -1 || amount > 1000000) {
            return BAD;
        }
        if (amount == -1) {
            now.limit.remove(p + " to " + q);
        } else if (now.net(p, q) > amount) {
            return SHORT;
        } else {
            now.limit.put(p + " to " + q, amount);
        }
        return goThrough();
    }

    int pay(int p, int q, int amount, int priority) {
        if (!two(p, q) || !amount(amount) || !priority(priority)) {
            return BAD;
        }
        return accept(priority, List.of(new Transfer(p, q, 0, amount)));
    }

    int deliver(int p, int q, int security, int amount) {
        if (!two(p, q) || !security(security) || !amount(amount)) {
            return BAD;
        }
        return accept(1, List.of(new Transfer(p, q, security, amount)));
    }

    int exchange(int p, int q, int security, int amount, int money) {
        if (!two(p, q) || !security(security) || !amount(amount) || !amount(money)) {
            return BAD;
        }
        return accept(1, List.of(new Transfer(p, q, security, amount), new Transfer(q, p, 0, money)));
    }

    private int accept(int priority, List<Transfer> transfers) {
        if (now.day != 1) {
            return SHUT;
        }
        if (now.order().size() == 10 || now.instructions.size() == 40) {
            return FULL;
        }
        Instruction it = new Instruction();
        it.transfers = transfers;
        it.number = now.instructions.size();
        it.priority = priority;
        now.instructions.add(it);
        goThrough();
        return it.number;
    }

    int cancel(int i) {
        if (status(i) != 0) {
            return BAD;
        }
        now.instructions.get(i).status = 2;
        return goThrough();
    }

    int prefer(int i, int priority) {
        if (status(i) != 0 || !priority(priority)) {
            return BAD;
        }
        now.instructions.get(i).priority = priority;
        return goThrough();
    }

    int resolve() {
        List<Instruction> order = now.order();
        int n = order.size();
        int[] needs = new int[n];
        for (int k = 0; k < n; k++) {
            for (Instruction it : now.ahead(k)) {
                needs[k] |= 1 << order.indexOf(it);
            }
        }
        int together = 0;
        for (int set = 0; set < 1 << n; set++) {
            if (isClosed(set, needs) && isCovered(set, order)) {
                together |= set;
            }
        }
        Set<Integer> numbers = new TreeSet<>();
        for (int k = 0; k < n; k++) {
            if ((together >> k & 1) == 1) {
                numbers.add(order.get(k).number);
            }
        }
        for (int number : numbers) {
            now.settle(number);
        }
        if (!now.isAboveFloors()) {
            throw new IllegalStateException("the sets put together are not covered");
        }
        ringsFound += numbers.isEmpty() ? 0 : 1;
        return numbers.size();
    }

    private static boolean isClosed(int set, int[] needs) {
        for (int k = 0; k < needs.length; k++) {
            if ((set >> k & 1) == 1 && (needs[k] & ~set) != 0) {
                return false;
            }
        }
        return true;
    }

    private boolean isCovered(int set, List<Instruction> order) {
        State then = now.copy();
        for (int k = 0; k < order.size(); k++) {
            if ((set >> k & 1) == 1) {
                then.settle(order.get(k).number);
            }
        }
        return then.isAboveFloors();
    }

    int advance() {
        now.day = (now.day + 1) % 3;
        if (now.day == 0) {
            for (Instruction it : now.order()) {
                it.status = 3;
            }
            now.paid.clear();
        }
        return now.day;
    }

    void sync() {
        sure = now.copy();
    }

    void crash() {
        now = sure.copy();
    }

    long position(int p, int asset, int which) {
        if (!participant(p) || asset < 0 || asset > 2 || which < 0 || which > 1) {
            return BAD;
        }
        return which == 0 ? now.held(p, asset) : now.pledged(p, asset);
    }

    long line(int p) {
        return participant(p) ? now.line(p) : BAD;
    }

    long net(int p, int q) {
        return two(p, q) ? now.net(p, q) : 0;
    }

    int status(int i) {
        return 0 <= i && i < now.instructions.size() ? now.instructions.get(i).status : BAD;
    }

    int waiting(int k) {
        List<Instruction> order = now.order();
        return 0 <= k && k < order.size() ? order.get(k).number : BAD;
    }

    int behind(int k) {
        return 0 <= k && k < now.order().size() ? now.ahead(k).size() : BAD;
    }
}
