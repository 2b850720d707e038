/**
 * Settles payments and deliveries of securities one by one and in full, or not yet: what can't
 * settle waits in order, and what waits in a ring is found and settled together.
 */
public final class GrossSettlement {
    /** A number does not say what it should. */
    public static final int BAD = -1;
    /** The day is not as it should be. */
    public static final int SHUT = -2;
    /** Ten wait, or there are 40 instructions. */
    public static final int FULL = -3;
    /** It is short of something. */
    public static final int SHORT = -4;

    private static final int PARTICIPANTS = 6;
    private static final int ASSETS = 3;
    private static final int MONEY = 0;
    private static final int MOST_AMOUNT = 1000000;
    private static final int MOST_PRICE = 1000;
    private static final int PERCENT = 100;
    private static final int MIDDLE_PRIORITY = 1;
    private static final int LAST_PRIORITY = 2;
    private static final int MOST_INSTRUCTIONS = 40;
    private static final int MOST_WAITING = 10;
    private static final int NONE = -1;
    /** Far above what 512 calls can bring about. */
    private static final long WITHOUT_END = 1L << 62;

    private static final int HOLDINGS = PARTICIPANTS * ASSETS;
    private static final int PAIRS = PARTICIPANTS * PARTICIPANTS;
    private static final int POSITIONS = HOLDINGS + PAIRS;

    private static final int CLOSED = 0;
    private static final int OPEN = 1;
    private static final int CUT = 2;

    private static final int WAITS = 0;
    private static final int SETTLED = 1;
    private static final int CANCELLED = 2;
    private static final int RETURNED = 3;

    private final Book now = new Book();
    private final Book sure = new Book();
    /** Scratch of resolve(), by place in the order; kept here so that no call makes an array. */
    private final boolean[] chosen = new boolean[MOST_WAITING];

    public GrossSettlement() {
    }

    public boolean issue(int p, int asset, int amount) {
        if (!isParticipant(p) || !isAsset(asset) || !isAmount(amount) || now.day != CLOSED) {
            return false;
        }
        now.accounts.held[holding(p, asset)] += amount;
        return true;
    }

    public boolean terms(int security, int price, int haircut) {
        if (!isSecurity(security) || price < 0 || price > MOST_PRICE) {
            return false;
        }
        if (haircut < 0 || haircut > PERCENT || now.day != CLOSED) {
            return false;
        }
        return now.accounts.reprice(security, price, haircut);
    }

    public int pledge(int p, int security, int amount) {
        if (!isParticipant(p) || !isSecurity(security) || !isAmount(amount)) {
            return BAD;
        }
        if (now.accounts.held[holding(p, security)] < amount) {
            return SHORT;
        }
        now.accounts.movePledge(p, security, amount);
        return goThrough();
    }

    public int release(int p, int security, int amount) {
        if (!isParticipant(p) || !isSecurity(security) || !isAmount(amount)) {
            return BAD;
        }
        return now.accounts.unpledge(p, security, amount) ? goThrough() : SHORT;
    }

    public int limit(int p, int q, int amount) {
        if (!areTwo(p, q) || amount < NONE || amount > MOST_AMOUNT) {
            return BAD;
        }
        if (amount != NONE && now.accounts.nets[pair(p, q)] > amount) {
            return SHORT;
        }
        now.accounts.limits[pair(p, q)] = amount;
        return goThrough();
    }

    public int pay(int p, int q, int amount, int priority) {
        if (!areTwo(p, q) || !isAmount(amount) || !isPriority(priority)) {
            return BAD;
        }
        // Seen from the other side, a payment is an exchange for nothing.
        return accept(q, p, MONEY, 0, amount, priority);
    }

    public int deliver(int p, int q, int security, int amount) {
        if (!areTwo(p, q) || !isSecurity(security) || !isAmount(amount)) {
            return BAD;
        }
        return accept(p, q, security, amount, 0, MIDDLE_PRIORITY);
    }

    public int exchange(int p, int q, int security, int amount, int money) {
        if (!areTwo(p, q) || !isSecurity(security) || !isAmount(amount) || !isAmount(money)) {
            return BAD;
        }
        return accept(p, q, security, amount, money, MIDDLE_PRIORITY);
    }

    public int cancel(int i) {
        int place = now.queue.placeOf(i);
        if (place == NONE) {
            return BAD;
        }
        now.queue.leave(place, CANCELLED);
        return goThrough();
    }

    public int prefer(int i, int priority) {
        int place = now.queue.placeOf(i);
        if (place == NONE || !isPriority(priority)) {
            return BAD;
        }
        now.queue.reorder(place, priority);
        return goThrough();
    }

    /**
     * Settles all that wait and takes back what can't stay. When a position is below its floor, no
     * covered set has the last instruction that debits it: a closed set with that one has all the
     * others that debit the position, and no more that credit it than the set tried here.
     */
    public int resolve() {
        chooseAll();
        for (int round = 0; round < MOST_WAITING; round++) {
            int position = now.accounts.firstBelowFloor();
            if (position == NONE) {
                break;
            }
            dropLastThatDebits(position);
        }
        return leaveChosen();
    }

    public int advance() {
        now.day = now.day == CUT ? CLOSED : now.day + 1;
        if (now.day == CLOSED) {
            now.queue.returnAll();
            now.accounts.clearNets();
        }
        return now.day;
    }

    public void sync() {
        sure.copyFrom(now);
    }

    public void crash() {
        now.copyFrom(sure);
    }

    public long position(int p, int asset, int which) {
        if (!isParticipant(p) || !isAsset(asset) || which < 0 || which > 1) {
            return BAD;
        }
        long[] amounts = which == 0 ? now.accounts.held : now.accounts.pledged;
        return amounts[holding(p, asset)];
    }

    public long line(int p) {
        return isParticipant(p) ? now.accounts.creditOf(p) : BAD;
    }

    public long net(int p, int q) {
        return areTwo(p, q) ? now.accounts.nets[pair(p, q)] : 0;
    }

    public int status(int i) {
        return now.queue.isNumber(i) ? now.queue.all[i].status : BAD;
    }

    public int waiting(int k) {
        return now.queue.isPlace(k) ? now.queue.order[k] : BAD;
    }

    public int behind(int k) {
        return now.queue.isPlace(k) ? now.queue.countAhead(k) : BAD;
    }

    private static boolean isParticipant(int p) {
        return p >= 0 && p < PARTICIPANTS;
    }

    private static boolean areTwo(int p, int q) {
        return isParticipant(p) && isParticipant(q) && p != q;
    }

    private static boolean isAsset(int asset) {
        return asset >= 0 && asset < ASSETS;
    }

    private static boolean isSecurity(int asset) {
        return isAsset(asset) && asset != MONEY;
    }

    private static boolean isAmount(int amount) {
        return amount >= 1 && amount <= MOST_AMOUNT;
    }

    private static boolean isPriority(int priority) {
        return priority >= 0 && priority <= LAST_PRIORITY;
    }

    /** The index of what p holds of the asset, and the number of this position. */
    private static int holding(int p, int asset) {
        return p * ASSETS + asset;
    }

    /** The index of what stands between p and q, seen from p. */
    private static int pair(int p, int q) {
        return p * PARTICIPANTS + q;
    }

    /** The number of the position (p to q): these come after all holdings. */
    private static int bilateral(int p, int q) {
        return HOLDINGS + pair(p, q);
    }

    /** Giver gives taker the amount of the security, and taker pays giver the money; either may be 0. */
    private int accept(int giver, int taker, int security, int amount, int money, int priority) {
        if (now.day != OPEN) {
            return SHUT;
        }
        if (now.queue.isFull()) {
            return FULL;
        }
        int i = now.queue.append(giver, taker, security, amount, money, priority);
        goThrough();
        return i;
    }

    private int goThrough() {
        for (int settled = 0; settled < MOST_WAITING; settled++) {
            int place = firstReady();
            if (place == NONE) {
                return settled;
            }
            now.accounts.move(now.queue.at(place), 1);
            now.queue.leave(place, SETTLED);
        }
        return MOST_WAITING;
    }

    private int firstReady() {
        for (int k = 0; k < now.queue.waits; k++) {
            if (now.queue.countAhead(k) == 0 && now.accounts.covers(now.queue.at(k))) {
                return k;
            }
        }
        return NONE;
    }

    private void chooseAll() {
        for (int k = 0; k < now.queue.waits; k++) {
            chosen[k] = true;
            now.accounts.move(now.queue.at(k), 1);
        }
    }

    private void dropLastThatDebits(int position) {
        for (int k = now.queue.waits - 1; k >= 0; k--) {
            if (chosen[k] && now.queue.at(k).debits(position)) {
                drop(k);
                dropThoseBehindDropped(k + 1);
                return;
            }
        }
    }

    /** One pass is enough: an instruction is only ever behind earlier ones. */
    private void dropThoseBehindDropped(int start) {
        for (int k = start; k < now.queue.waits; k++) {
            if (chosen[k] && isBehindDropped(k)) {
                drop(k);
            }
        }
    }

    private boolean isBehindDropped(int place) {
        for (int k = 0; k < place; k++) {
            if (!chosen[k] && now.queue.at(place).meets(now.queue.at(k))) {
                return true;
            }
        }
        return false;
    }

    private void drop(int place) {
        chosen[place] = false;
        now.accounts.move(now.queue.at(place), -1);
    }

    /** From the last place to the first, since leaving shifts the places after it. */
    private int leaveChosen() {
        int settled = 0;
        for (int k = now.queue.waits - 1; k >= 0; k--) {
            if (chosen[k]) {
                now.queue.leave(k, SETTLED);
                settled++;
            }
        }
        return settled;
    }

    /** All that is kept. */
    private static final class Book {
        private int day = CLOSED;
        private final Accounts accounts = new Accounts();
        private final Queue queue = new Queue();

        void copyFrom(Book other) {
            day = other.day;
            accounts.copyFrom(other.accounts);
            queue.copyFrom(other.queue);
        }
    }

    /** What the participants hold and have pledged, and what stands between them. */
    private static final class Accounts {
        private final long[] held = new long[HOLDINGS];
        private final long[] pledged = new long[HOLDINGS];
        private final int[] prices = new int[ASSETS];
        private final int[] haircuts = new int[ASSETS];
        private final int[] limits = new int[PAIRS];
        private final long[] nets = new long[PAIRS];

        Accounts() {
            for (int i = 0; i < PAIRS; i++) {
                limits[i] = NONE;
            }
        }

        /** What the document calls the line of p. */
        long creditOf(int p) {
            int first = p * ASSETS;
            long credit = 0;
            for (int a = MONEY + 1; a < ASSETS; a++) {
                credit += pledged[first + a] * prices[a] * (PERCENT - haircuts[a]) / PERCENT;
            }
            return credit;
        }

        /** How far the position is above its floor; without end where there is no such limit. */
        long room(int position) {
            if (position >= HOLDINGS) {
                int i = position - HOLDINGS;
                return limits[i] == NONE ? WITHOUT_END : limits[i] - nets[i];
            }
            boolean isMoney = position % ASSETS == MONEY;
            return isMoney ? held[position] + creditOf(position / ASSETS) : held[position];
        }

        int firstBelowFloor() {
            for (int i = 0; i < POSITIONS; i++) {
                if (room(i) < 0) {
                    return i;
                }
            }
            return NONE;
        }

        /** Settling lowers nothing but what is debited, so no other position need be looked at. */
        boolean covers(Instruction it) {
            if (it.amount > 0 && room(holding(it.giver, it.security)) < it.amount) {
                return false;
            }
            return it.money == 0
                || room(holding(it.taker, MONEY)) >= it.money
                && room(bilateral(it.taker, it.giver)) >= it.money;
        }

        /** Moves all that the instruction names, or takes it back with the sign -1. */
        void move(Instruction it, int sign) {
            long amount = (long) sign * it.amount;
            long money = (long) sign * it.money;
            held[holding(it.giver, it.security)] -= amount;
            held[holding(it.taker, it.security)] += amount;
            held[holding(it.taker, MONEY)] -= money;
            held[holding(it.giver, MONEY)] += money;
            nets[pair(it.taker, it.giver)] += money;
            nets[pair(it.giver, it.taker)] -= money;
        }

        boolean reprice(int security, int price, int haircut) {
            int oldPrice = prices[security];
            int oldHaircut = haircuts[security];
            prices[security] = price;
            haircuts[security] = haircut;
            if (firstBelowFloor() == NONE) {
                return true;
            }
            prices[security] = oldPrice;
            haircuts[security] = oldHaircut;
            return false;
        }

        void movePledge(int p, int security, int amount) {
            held[holding(p, security)] -= amount;
            pledged[holding(p, security)] += amount;
        }

        boolean unpledge(int p, int security, int amount) {
            if (pledged[holding(p, security)] < amount) {
                return false;
            }
            movePledge(p, security, -amount);
            if (room(holding(p, MONEY)) >= 0) {
                return true;
            }
            movePledge(p, security, amount);
            return false;
        }

        void clearNets() {
            for (int i = 0; i < PAIRS; i++) {
                nets[i] = 0;
            }
        }

        void copyFrom(Accounts other) {
            System.arraycopy(other.held, 0, held, 0, HOLDINGS);
            System.arraycopy(other.pledged, 0, pledged, 0, HOLDINGS);
            System.arraycopy(other.prices, 0, prices, 0, ASSETS);
            System.arraycopy(other.haircuts, 0, haircuts, 0, ASSETS);
            System.arraycopy(other.limits, 0, limits, 0, PAIRS);
            System.arraycopy(other.nets, 0, nets, 0, PAIRS);
        }
    }

    /** All instructions by number, and the numbers of those that wait in their order. */
    private static final class Queue {
        private final Instruction[] all = new Instruction[MOST_INSTRUCTIONS];
        private int count = 0;
        private final int[] order = new int[MOST_WAITING];
        private int waits = 0;

        Queue() {
            for (int i = 0; i < MOST_INSTRUCTIONS; i++) {
                all[i] = new Instruction();
            }
        }

        boolean isFull() {
            return waits >= MOST_WAITING || count >= MOST_INSTRUCTIONS;
        }

        boolean isNumber(int i) {
            return i >= 0 && i < count;
        }

        boolean isPlace(int k) {
            return k >= 0 && k < waits;
        }

        Instruction at(int place) {
            return all[order[place]];
        }

        int placeOf(int i) {
            for (int k = 0; k < waits; k++) {
                if (order[k] == i) {
                    return k;
                }
            }
            return NONE;
        }

        int countAhead(int place) {
            int ahead = 0;
            for (int k = 0; k < place; k++) {
                if (at(place).meets(at(k))) {
                    ahead++;
                }
            }
            return ahead;
        }

        int append(int giver, int taker, int security, int amount, int money, int priority) {
            int i = count;
            count++;
            Instruction it = all[i];
            it.giver = giver;
            it.taker = taker;
            it.security = security;
            it.amount = amount;
            it.money = money;
            it.priority = priority;
            it.status = WAITS;
            enter(i);
            return i;
        }

        void reorder(int place, int priority) {
            int i = order[place];
            removeAt(place);
            all[i].priority = priority;
            enter(i);
        }

        void leave(int place, int status) {
            at(place).status = status;
            removeAt(place);
        }

        void returnAll() {
            for (int k = 0; k < waits; k++) {
                at(k).status = RETURNED;
            }
            waits = 0;
        }

        private void enter(int i) {
            int place = waits;
            while (place > 0 && comesBefore(i, order[place - 1])) {
                order[place] = order[place - 1];
                place--;
            }
            order[place] = i;
            waits++;
        }

        private void removeAt(int place) {
            waits--;
            for (int k = place; k < waits; k++) {
                order[k] = order[k + 1];
            }
        }

        private boolean comesBefore(int i, int j) {
            int first = all[i].priority;
            int second = all[j].priority;
            return first < second || first == second && i < j;
        }

        void copyFrom(Queue other) {
            for (int i = 0; i < other.count; i++) {
                all[i].copyFrom(other.all[i]);
            }
            System.arraycopy(other.order, 0, order, 0, MOST_WAITING);
            count = other.count;
            waits = other.waits;
        }
    }

    /** Giver gives taker an amount of a security, taker pays giver money; what is 0 is no part of it. */
    private static final class Instruction {
        private int giver;
        private int taker;
        private int security;
        private int amount;
        private int money;
        private int priority;
        private int status;

        boolean debits(int position) {
            if (amount > 0 && position == holding(giver, security)) {
                return true;
            }
            return money > 0
                && (position == holding(taker, MONEY) || position == bilateral(taker, giver));
        }

        /**
         * Both debit the same position. The positions (p to q) need no look: who debits one of
         * these debits the money of p as well.
         */
        boolean meets(Instruction other) {
            if (money > 0 && other.money > 0 && taker == other.taker) {
                return true;
            }
            return amount > 0 && other.amount > 0
                && giver == other.giver && security == other.security;
        }

        void copyFrom(Instruction other) {
            giver = other.giver;
            taker = other.taker;
            security = other.security;
            amount = other.amount;
            money = other.money;
            priority = other.priority;
            status = other.status;
        }
    }
}
