/** Each promise of the document by itself: ordinary inputs, the edges that it names, wrong inputs. */
public final class PromisesTest {
    private static final int BAD = -1;
    private static final int SHUT = -2;
    private static final int FULL = -3;
    private static final int SHORT = -4;
    private static final int MOST = 1000000;
    private static final int[] NO_PARTICIPANTS = {-1, 6, Integer.MIN_VALUE, Integer.MAX_VALUE};
    private static final int[] NO_SECURITIES = {0, 3, -1, Integer.MIN_VALUE, Integer.MAX_VALUE};
    private static final int[] NO_AMOUNTS = {0, -1, MOST + 1, Integer.MIN_VALUE, Integer.MAX_VALUE};
    private static final int[] NO_PRIORITIES = {-1, 3, Integer.MIN_VALUE, Integer.MAX_VALUE};

    private final Answers answers = new Answers();
    private GrossSettlement x;

    public static void main(String[] args) {
        PromisesTest test = new PromisesTest();
        test.newObject();
        test.issue();
        test.issueOnlyWhenClosed();
        test.terms();
        test.termsKeepFloors();
        test.pledge();
        test.release();
        test.releaseKeepsTheFloor();
        test.limit();
        test.limitLetsGoOn();
        test.pay();
        test.payRefused();
        test.deliver();
        test.exchange();
        test.full();
        test.cancel();
        test.prefer();
        test.goingThrough();
        test.resolveRings();
        test.resolveClosedSets();
        test.resolveWithLimitsAndLines();
        test.advance();
        test.syncAndCrash();
        test.syncKeepsEverything();
        test.position();
        test.line();
        test.net();
        test.status();
        test.waitingAndBehind();
        test.answers.end();
    }

    private void about(String topic) {
        answers.about(topic);
        x = new GrossSettlement();
    }

    private void due(long want, String call, long got) {
        answers.due(want, call, got);
    }

    private void due(boolean want, String call, boolean got) {
        answers.due(want, call, got);
    }

    /** What p holds of money and both securities. */
    private void holds(int p, long money, long first, long second) {
        due(money, "money of " + p, x.position(p, 0, 0));
        due(first, "security 1 of " + p, x.position(p, 1, 0));
        due(second, "security 2 of " + p, x.position(p, 2, 0));
    }

    private void order(int... numbers) {
        for (int k = 0; k < numbers.length; k++) {
            due(numbers[k], "waiting(" + k + ")", x.waiting(k));
        }
        due(BAD, "waiting(" + numbers.length + ")", x.waiting(numbers.length));
    }

    private void newObject() {
        about("1, a new object");
        for (int p = 0; p < 6; p++) {
            holds(p, 0, 0, 0);
            due(0, "pledged", x.position(p, 1, 1) + x.position(p, 2, 1));
            due(0, "line", x.line(p));
            for (int q = 0; q < 6; q++) {
                due(0, "net", x.net(p, q));
            }
        }
        order();
        due(BAD, "status(0)", x.status(0));
        due(0, "resolve()", x.resolve());
        due(SHUT, "the day is closed: pay", x.pay(0, 1, 1, 1));
        due(true, "price and haircut are 0: issue", x.issue(0, 1, 9));
        due(0, "pledge", x.pledge(0, 1, 9));
        due(0, "line", x.line(0));
        due(1, "advance", x.advance());
        x.crash();
        due(1, "the day was closed at first: advance", x.advance());
        due(0, "nothing was issued", x.position(0, 1, 1));
    }

    private void issue() {
        about("2, issue");
        due(true, "issue(0, 0, 1)", x.issue(0, 0, 1));
        due(true, "issue(0, 0, MOST)", x.issue(0, 0, MOST));
        due(true, "issue(5, 2, 7)", x.issue(5, 2, 7));
        due(true, "issue(0, 1, 3)", x.issue(0, 1, 3));
        for (int p : NO_PARTICIPANTS) {
            due(false, "issue of " + p, x.issue(p, 0, 1));
        }
        for (int asset : new int[] {-1, 3, Integer.MIN_VALUE, Integer.MAX_VALUE}) {
            due(false, "issue of asset " + asset, x.issue(0, asset, 1));
        }
        for (int amount : NO_AMOUNTS) {
            due(false, "issue of amount " + amount, x.issue(0, 0, amount));
        }
        holds(0, MOST + 1, 3, 0);
        holds(5, 0, 0, 7);
    }

    private void issueOnlyWhenClosed() {
        about("2, issue and the day");
        x.advance();
        due(false, "open", x.issue(0, 0, 1));
        x.advance();
        due(false, "cut", x.issue(0, 0, 1));
        x.advance();
        due(true, "closed again", x.issue(0, 0, 1));
        holds(0, 1, 0, 0);
    }

    private void terms() {
        about("3, terms");
        x.issue(0, 1, 10);
        x.issue(0, 2, 10);
        x.pledge(0, 1, 10);
        x.pledge(0, 2, 3);
        due(true, "terms(1, 1000, 0)", x.terms(1, 1000, 0));
        due(10000, "line", x.line(0));
        due(true, "terms(2, 33, 50)", x.terms(2, 33, 50));
        due(10049, "line", x.line(0));
        for (int security : NO_SECURITIES) {
            due(false, "terms of " + security, x.terms(security, 1, 1));
        }
        for (int price : new int[] {-1, 1001, Integer.MIN_VALUE, Integer.MAX_VALUE}) {
            due(false, "price " + price, x.terms(1, price, 1));
        }
        for (int haircut : new int[] {-1, 101, Integer.MIN_VALUE, Integer.MAX_VALUE}) {
            due(false, "haircut " + haircut, x.terms(1, 1, haircut));
        }
        due(10049, "line", x.line(0));
        due(true, "haircut 100", x.terms(1, 1000, 100));
        due(49, "line", x.line(0));
        due(true, "price 0", x.terms(2, 0, 0));
        due(0, "line", x.line(0));
        x.advance();
        due(false, "open", x.terms(1, 1, 1));
        x.advance();
        due(false, "cut", x.terms(1, 1, 1));
        x.advance();
        due(true, "closed again", x.terms(1, 1, 0));
        due(10, "line", x.line(0));
    }

    private void termsKeepFloors() {
        about("3, terms and the floors");
        x.issue(5, 2, 10);
        x.terms(2, 10, 0);
        x.pledge(5, 2, 10);
        x.advance();
        due(0, "pay", x.pay(5, 0, 50, 1));
        x.advance();
        x.advance();
        due(-50, "money", x.position(5, 0, 0));
        due(false, "terms(2, 4, 0)", x.terms(2, 4, 0));
        due(false, "terms(2, 10, 51)", x.terms(2, 10, 51));
        due(100, "line is as before", x.line(5));
        due(true, "just the floor", x.terms(2, 10, 50));
        due(50, "line", x.line(5));
        due(true, "the other security", x.terms(1, 0, 100));
    }

    private void pledge() {
        about("4, pledge");
        x.issue(2, 1, 10);
        x.terms(1, 10, 10);
        for (int p : NO_PARTICIPANTS) {
            due(BAD, "pledge of " + p, x.pledge(p, 1, 1));
        }
        for (int security : NO_SECURITIES) {
            due(BAD, "pledge of security " + security, x.pledge(2, security, 1));
        }
        for (int amount : NO_AMOUNTS) {
            due(BAD, "pledge of amount " + amount, x.pledge(2, 1, amount));
        }
        due(SHORT, "more than it holds", x.pledge(2, 1, 11));
        due(SHORT, "the other security", x.pledge(2, 2, 1));
        due(BAD, "BAD comes first", x.pledge(2, 2, 0));
        due(0, "closed", x.pledge(2, 1, 1));
        holds(2, 0, 9, 0);
        due(1, "pledged", x.position(2, 1, 1));
        x.advance();
        due(0, "pay", x.pay(2, 3, 18, 1));
        due(1, "pay", x.pay(3, 4, 18, 1));
        due(2, "both are settled", x.pledge(2, 1, 1));
        holds(2, -18, 8, 0);
        holds(4, 18, 0, 0);
        due(2, "pay", x.pay(2, 3, 9, 1));
        x.advance();
        due(1, "whatever the day is", x.pledge(2, 1, 8));
        due(1, "status", x.status(2));
        due(90, "line", x.line(2));
        due(SHORT, "nothing is left", x.pledge(2, 1, 1));
    }

    private void release() {
        about("5, release");
        x.issue(2, 1, 10);
        x.pledge(2, 1, 6);
        for (int p : NO_PARTICIPANTS) {
            due(BAD, "release of " + p, x.release(p, 1, 1));
        }
        for (int security : NO_SECURITIES) {
            due(BAD, "release of security " + security, x.release(2, security, 1));
        }
        for (int amount : NO_AMOUNTS) {
            due(BAD, "release of amount " + amount, x.release(2, 1, amount));
        }
        due(SHORT, "more than is pledged", x.release(2, 1, 7));
        due(SHORT, "the other security", x.release(2, 2, 1));
        due(0, "closed", x.release(2, 1, 1));
        holds(2, 0, 5, 0);
        due(5, "pledged", x.position(2, 1, 1));
        x.advance();
        due(0, "deliver", x.deliver(2, 3, 1, 6));
        due(1, "deliver", x.deliver(3, 4, 1, 6));
        due(2, "deliver", x.deliver(2, 4, 1, 3));
        due(2, "the ring's two are settled", x.release(2, 1, 1));
        holds(2, 0, 0, 0);
        holds(4, 0, 6, 0);
        x.advance();
        due(1, "whatever the day is", x.release(2, 1, 4));
        holds(2, 0, 1, 0);
        due(0, "pledged", x.position(2, 1, 1));
        due(SHORT, "nothing is left", x.release(2, 1, 1));
    }

    private void releaseKeepsTheFloor() {
        about("5, release and the floor");
        x.issue(2, 1, 10);
        x.issue(2, 2, 10);
        x.terms(1, 7, 50);
        x.terms(2, 1, 0);
        x.pledge(2, 1, 3);
        due(10, "line is cut to a whole number", x.line(2));
        x.pledge(2, 2, 2);
        x.advance();
        due(0, "pay", x.pay(2, 0, 10, 0));
        due(SHORT, "below the line", x.release(2, 1, 1));
        due(3, "pledged", x.position(2, 1, 1));
        holds(2, -10, 7, 8);
        due(0, "release of the other", x.release(2, 2, 2));
        due(1, "pay", x.pay(0, 2, 3, 0));
        due(0, "just the floor", x.release(2, 1, 1));
        due(7, "line", x.line(2));
        due(SHORT, "below the line", x.release(2, 1, 1));
    }

    private void limit() {
        about("6, limit");
        x.issue(0, 0, 100);
        for (int p : NO_PARTICIPANTS) {
            due(BAD, "limit of " + p, x.limit(p, 0, 1));
            due(BAD, "limit to " + p, x.limit(0, p, 1));
        }
        due(BAD, "both are the same", x.limit(3, 3, 1));
        for (int amount : new int[] {-2, MOST + 1, Integer.MIN_VALUE, Integer.MAX_VALUE}) {
            due(BAD, "limit of amount " + amount, x.limit(0, 1, amount));
        }
        due(0, "closed", x.limit(0, 1, 10));
        x.advance();
        due(0, "pay", x.pay(0, 1, 10, 1));
        due(1, "up to the limit", x.status(0));
        due(SHORT, "NET is greater", x.limit(0, 1, 9));
        due(0, "NET is as great", x.limit(0, 1, 10));
        due(1, "pay", x.pay(0, 1, 1, 1));
        due(0, "above the limit", x.status(1));
        due(2, "to another", x.pay(0, 2, 1, 0));
        due(1, "no limit to that one", x.status(2));
        due(3, "back", x.pay(1, 0, 1, 1));
        due(1, "NET is less again", x.status(1));
        due(0, "limit the other way", x.limit(1, 0, 0));
        due(4, "pay", x.pay(1, 0, 1, 1));
        due(1, "NET is less than 0", x.status(4));
        due(0, "the greatest limit", x.limit(4, 5, MOST));
    }

    private void limitLetsGoOn() {
        about("6, limit and GOING THROUGH");
        x.issue(0, 0, 100);
        x.limit(0, 1, 0);
        x.advance();
        x.pay(0, 1, 5, 1);
        x.pay(0, 2, 5, 1);
        order(0, 1);
        due(BAD, "BAD changes nothing", x.limit(0, 1, -2));
        due(0, "too small", x.limit(0, 1, 4));
        due(2, "great enough", x.limit(0, 1, 5));
        x.pay(0, 1, 6, 1);
        x.advance();
        due(1, "none, whatever the day is", x.limit(0, 1, -1));
        due(11, "net", x.net(0, 1));
        due(SHORT, "a limit below it", x.limit(0, 1, 10));
        x.advance();
        due(0, "NET is 0 again", x.limit(0, 1, 0));
        x.advance();
        x.pay(0, 1, 1, 1);
        due(0, "the limit outlasts the day", x.status(3));
    }

    private void pay() {
        about("7, pay");
        x.issue(0, 0, 10);
        x.advance();
        due(0, "pay", x.pay(0, 1, 4, 2));
        holds(0, 6, 0, 0);
        holds(1, 4, 0, 0);
        due(4, "net", x.net(0, 1));
        due(1, "pay", x.pay(0, 1, 7, 1));
        holds(0, 6, 0, 0);
        due(2, "behind a waiting one", x.pay(0, 2, 6, 1));
        due(0, "status", x.status(2));
        due(3, "before it", x.pay(0, 2, 5, 0));
        due(1, "status", x.status(3));
        due(4, "a greater priority number", x.pay(0, 3, 1, 2));
        order(1, 2, 4);
        due(5, "what comes in goes on", x.pay(1, 0, 4, 1));
        due(0, "5 of 7 is too little", x.status(1));
        due(6, "pay", x.pay(3, 0, MOST, 0));
        order(6, 1, 2, 4);
    }

    private void payRefused() {
        about("7, pay refused");
        x.issue(0, 0, 10);
        due(BAD, "BAD before SHUT", x.pay(0, 0, 1, 1));
        due(SHUT, "closed", x.pay(0, 1, 1, 1));
        x.advance();
        for (int p : NO_PARTICIPANTS) {
            due(BAD, "pay of " + p, x.pay(p, 0, 1, 1));
            due(BAD, "pay to " + p, x.pay(0, p, 1, 1));
        }
        due(BAD, "both are the same", x.pay(4, 4, 1, 1));
        for (int amount : NO_AMOUNTS) {
            due(BAD, "amount " + amount, x.pay(0, 1, amount, 1));
        }
        for (int priority : NO_PRIORITIES) {
            due(BAD, "priority " + priority, x.pay(0, 1, 1, priority));
        }
        due(BAD, "nothing was accepted", x.status(0));
        x.advance();
        due(SHUT, "cut", x.pay(0, 1, 1, 1));
        due(BAD, "nothing was accepted", x.status(0));
        holds(0, 10, 0, 0);
    }

    private void deliver() {
        about("8, deliver");
        x.issue(0, 1, 10);
        x.issue(0, 2, 5);
        due(BAD, "BAD before SHUT", x.deliver(0, 1, 0, 1));
        due(SHUT, "closed", x.deliver(0, 1, 1, 1));
        x.advance();
        for (int p : NO_PARTICIPANTS) {
            due(BAD, "deliver of " + p, x.deliver(p, 0, 1, 1));
            due(BAD, "deliver to " + p, x.deliver(0, p, 1, 1));
        }
        due(BAD, "both are the same", x.deliver(4, 4, 1, 1));
        for (int security : NO_SECURITIES) {
            due(BAD, "security " + security, x.deliver(0, 1, security, 1));
        }
        for (int amount : NO_AMOUNTS) {
            due(BAD, "amount " + amount, x.deliver(0, 1, 1, amount));
        }
        due(0, "deliver", x.deliver(0, 1, 1, 10));
        holds(0, 0, 0, 5);
        holds(1, 0, 10, 0);
        due(0, "no money, no net", x.net(0, 1));
        due(1, "deliver", x.deliver(0, 2, 1, 1));
        due(2, "the other security is another position", x.deliver(0, 2, 2, 5));
        due(1, "status", x.status(2));
        due(3, "pay with priority 0", x.pay(3, 4, 1, 0));
        due(4, "pay with priority 2", x.pay(3, 4, 1, 2));
        due(5, "deliver has 1", x.deliver(0, 3, 2, 1));
        order(3, 1, 5, 4);
        due(0, "another position", x.behind(1));
        due(0, "another position", x.behind(2));
        x.advance();
        due(SHUT, "cut", x.deliver(1, 0, 1, 1));
    }

    private void exchange() {
        about("9, exchange");
        x.issue(0, 1, 10);
        x.issue(1, 0, 20);
        due(BAD, "BAD before SHUT", x.exchange(0, 1, 1, 1, 0));
        due(SHUT, "closed", x.exchange(0, 1, 1, 1, 1));
        x.advance();
        for (int p : NO_PARTICIPANTS) {
            due(BAD, "exchange of " + p, x.exchange(p, 0, 1, 1, 1));
            due(BAD, "exchange with " + p, x.exchange(0, p, 1, 1, 1));
        }
        due(BAD, "both are the same", x.exchange(4, 4, 1, 1, 1));
        for (int security : NO_SECURITIES) {
            due(BAD, "security " + security, x.exchange(0, 1, security, 1, 1));
        }
        for (int amount : NO_AMOUNTS) {
            due(BAD, "amount " + amount, x.exchange(0, 1, 1, amount, 1));
            due(BAD, "money " + amount, x.exchange(0, 1, 1, 1, amount));
        }
        due(0, "exchange", x.exchange(0, 1, 1, 4, 15));
        holds(0, 15, 6, 0);
        holds(1, 5, 4, 0);
        due(15, "net", x.net(1, 0));
        due(-15, "net", x.net(0, 1));
        due(1, "too little money", x.exchange(0, 1, 1, 1, 6));
        due(2, "behind in the security", x.deliver(0, 2, 1, 1));
        due(3, "behind in the money", x.pay(1, 2, 1, 1));
        order(1, 2, 3);
        due(1, "behind(1)", x.behind(1));
        due(1, "behind(2)", x.behind(2));
        due(4, "pay of the giver is not behind", x.pay(0, 2, 1, 1));
        due(1, "status", x.status(4));
        due(0, "a limit of the payer to the payed", x.limit(1, 0, 20));
        due(2, "cancel lets both go on", x.cancel(1));
        due(5, "above the limit", x.pay(0, 1, 2, 1));
        due(6, "exchange", x.exchange(0, 1, 1, 1, 6));
        due(1, "the payment back gave room", x.status(6));
        due(7, "too few securities", x.exchange(0, 1, 1, 5, 1));
        due(0, "status", x.status(7));
        x.advance();
        due(SHUT, "cut", x.exchange(0, 1, 1, 1, 1));
    }

    private void full() {
        about("7 to 9, FULL");
        x.issue(0, 0, 100);
        x.issue(0, 1, 100);
        x.advance();
        for (int i = 0; i < 10; i++) {
            due(i, "pay", x.pay(1, 2, 1, 1));
        }
        due(FULL, "ten wait: pay", x.pay(0, 1, 1, 1));
        due(FULL, "ten wait: deliver", x.deliver(0, 1, 1, 1));
        due(FULL, "ten wait: exchange", x.exchange(0, 3, 1, 1, 1));
        due(BAD, "BAD before FULL", x.pay(0, 0, 1, 1));
        holds(0, 100, 100, 0);
        due(0, "cancel", x.cancel(9));
        for (int i = 10; i < 40; i++) {
            due(i, "deliver", x.deliver(0, 3, 1, 1));
        }
        due(1, "the last one", x.status(39));
        due(FULL, "40 instructions: pay", x.pay(0, 1, 1, 1));
        due(FULL, "40 instructions: deliver", x.deliver(0, 1, 1, 1));
        due(FULL, "40 instructions: exchange", x.exchange(0, 1, 1, 1, 1));
        due(BAD, "status(40)", x.status(40));
        x.advance();
        due(SHUT, "SHUT before FULL", x.pay(0, 1, 1, 1));
        x.advance();
        x.advance();
        due(FULL, "on another day, too", x.pay(0, 1, 1, 1));
    }

    private void cancel() {
        about("10, cancel");
        x.issue(0, 0, 10);
        x.advance();
        due(BAD, "there is none", x.cancel(0));
        x.pay(0, 1, 11, 1);
        x.pay(0, 1, 4, 1);
        x.pay(0, 2, 6, 1);
        x.pay(0, 2, 1, 1);
        for (int i : new int[] {-1, 4, 40, Integer.MIN_VALUE, Integer.MAX_VALUE}) {
            due(BAD, "cancel(" + i + ")", x.cancel(i));
        }
        due(2, "cancel(0)", x.cancel(0));
        due(2, "status", x.status(0));
        due(BAD, "is cancelled", x.cancel(0));
        due(BAD, "is settled", x.cancel(1));
        order(3);
        x.advance();
        due(0, "whatever the day is", x.cancel(3));
        order();
        holds(0, 0, 0, 0);
    }

    private void prefer() {
        about("11, prefer");
        x.issue(0, 0, 10);
        x.advance();
        due(BAD, "there is none", x.prefer(0, 1));
        x.pay(0, 1, 11, 1);
        x.pay(0, 1, 12, 1);
        x.pay(0, 2, 6, 2);
        x.pay(0, 2, 4, 2);
        x.pay(0, 3, 9, 1);
        order(0, 1, 4, 2, 3);
        for (int priority : NO_PRIORITIES) {
            due(BAD, "priority " + priority, x.prefer(0, priority));
        }
        for (int i : new int[] {-1, 5, 40, Integer.MIN_VALUE, Integer.MAX_VALUE}) {
            due(BAD, "prefer(" + i + ", 0)", x.prefer(i, 0));
        }
        order(0, 1, 4, 2, 3);
        due(0, "as it was", x.prefer(1, 1));
        order(0, 1, 4, 2, 3);
        due(0, "later", x.prefer(0, 2));
        order(1, 4, 0, 2, 3);
        due(0, "and back", x.prefer(0, 1));
        order(0, 1, 4, 2, 3);
        due(1, "to the front", x.prefer(2, 0));
        order(0, 1, 4, 3);
        x.advance();
        due(BAD, "is settled", x.prefer(2, 0));
        due(1, "whatever the day is", x.prefer(3, 0));
        holds(0, 0, 0, 0);
        holds(2, 10, 0, 0);
        x.cancel(4);
        due(BAD, "is cancelled", x.prefer(4, 0));
    }

    private void goingThrough() {
        about("GOING THROUGH begins anew with the first");
        x.issue(3, 0, 10);
        x.advance();
        x.pay(1, 2, 10, 0);
        x.pay(2, 4, 10, 0);
        x.pay(2, 5, 10, 1);
        x.pay(3, 4, 11, 0);
        x.pay(3, 1, 10, 2);
        order(0, 1, 3, 2, 4);
        due(3, "what comes later lets earlier ones settle", x.cancel(3));
        order(2);
        holds(4, 10, 0, 0);
        due(5, "a ring is left to resolve", x.pay(4, 5, 11, 1));
        due(6, "pay", x.pay(5, 4, 1, 1));
        order(2, 5, 6);
        due(2, "resolve", x.resolve());
    }

    private void resolveRings() {
        about("12, resolve");
        x.issue(0, 0, 5);
        x.issue(4, 1, 2);
        x.advance();
        x.pay(0, 1, 100, 1);
        x.pay(1, 2, 100, 2);
        due(0, "no ring yet", x.resolve());
        x.pay(2, 0, 95, 0);
        x.pay(3, 4, 1, 0);
        x.advance();
        due(3, "whatever the day is", x.resolve());
        order(3);
        holds(0, 0, 0, 0);
        holds(1, 0, 0, 0);
        holds(2, 5, 0, 0);
        due(100, "net", x.net(0, 1));
        due(-95, "net", x.net(0, 2));
        due(0, "and none again", x.resolve());
        about("12, a ring of money and securities");
        x.issue(0, 1, 3);
        x.issue(1, 2, 4);
        x.advance();
        x.exchange(0, 1, 1, 3, 50);
        x.exchange(1, 0, 2, 4, 50);
        order(0, 1);
        due(2, "resolve", x.resolve());
        holds(0, 0, 0, 4);
        holds(1, 0, 3, 0);
        due(0, "net", x.net(0, 1));
    }

    private void resolveClosedSets() {
        about("12, a ring with one before it that is not covered");
        x.advance();
        x.pay(0, 3, 1, 0);
        x.pay(0, 1, 10, 1);
        x.pay(1, 0, 10, 1);
        due(0, "resolve", x.resolve());
        order(0, 1, 2);
        due(0, "prefer", x.prefer(0, 2));
        due(2, "resolve", x.resolve());
        order(0);
        about("12, only the last that debits is left out");
        x.issue(0, 0, 1);
        x.advance();
        x.pay(1, 0, 10, 1);
        x.pay(0, 1, 6, 1);
        x.pay(0, 1, 5, 1);
        x.pay(0, 1, 2, 1);
        order(0, 1, 2, 3);
        due(3, "without 3, 0 gets what it gives", x.resolve());
        order(3);
        holds(0, 0, 0, 0);
        holds(1, 1, 0, 0);
        about("12, two rings, one of them covered");
        x.advance();
        x.pay(0, 1, 7, 1);
        x.pay(1, 0, 7, 1);
        x.deliver(2, 3, 1, 8);
        x.deliver(3, 2, 1, 7);
        due(2, "resolve", x.resolve());
        order(2, 3);
        about("12, without GOING THROUGH what is behind stays");
        x.advance();
        x.exchange(0, 1, 1, 1, 9);
        x.pay(1, 2, 3, 1);
        x.pay(2, 1, 3, 1);
        due(0, "1 is behind 0, which is short of securities", x.resolve());
        order(0, 1, 2);
        due(1, "behind(1)", x.behind(1));
    }

    private void resolveWithLimitsAndLines() {
        about("12, resolve and limits");
        x.limit(0, 1, 9);
        x.advance();
        x.pay(0, 1, 10, 1);
        x.pay(1, 2, 10, 1);
        x.pay(2, 0, 10, 1);
        due(0, "above the limit", x.resolve());
        due(0, "limit", x.limit(0, 1, 10));
        due(3, "up to the limit", x.resolve());
        due(10, "net", x.net(0, 1));
        x.pay(0, 1, 5, 1);
        x.pay(1, 0, 5, 1);
        due(2, "what is paid back gives room", x.resolve());
        about("12, resolve and lines");
        x.issue(0, 2, 5);
        x.terms(2, 1, 0);
        x.pledge(0, 2, 4);
        x.advance();
        x.pay(0, 1, 10, 1);
        x.pay(1, 0, 5, 1);
        due(0, "one below the floor", x.resolve());
        due(0, "pledge", x.pledge(0, 2, 1));
        due(2, "just the floor", x.resolve());
        due(-5, "money", x.position(0, 0, 0));
    }

    private void advance() {
        about("13, advance");
        x.issue(0, 0, 10);
        due(1, "open", x.advance());
        x.pay(0, 1, 10, 1);
        x.pay(0, 1, 1, 1);
        x.deliver(3, 4, 2, 1);
        x.pay(0, 2, 1, 1);
        x.cancel(3);
        due(2, "cut", x.advance());
        order(1, 2);
        due(10, "net", x.net(0, 1));
        due(0, "closed", x.advance());
        order();
        due(1, "settled", x.status(0));
        due(3, "returned", x.status(1));
        due(3, "returned", x.status(2));
        due(2, "cancelled", x.status(3));
        due(0, "net", x.net(0, 1));
        due(0, "net", x.net(1, 0));
        holds(1, 10, 0, 0);
        due(BAD, "cancel", x.cancel(1));
        x.issue(0, 0, 5);
        due(1, "open", x.advance());
        due(4, "numbers go on", x.pay(0, 1, 5, 1));
        due(5, "net", x.net(0, 1));
        due(3, "returned for good", x.status(1));
    }

    private void syncAndCrash() {
        about("14 and 15, sync and crash");
        x.issue(0, 0, 10);
        x.sync();
        x.issue(0, 0, 5);
        x.advance();
        x.pay(0, 1, 3, 1);
        x.crash();
        holds(0, 10, 0, 0);
        due(BAD, "status", x.status(0));
        due(SHUT, "the day is closed again", x.pay(0, 1, 1, 1));
        x.advance();
        x.pay(0, 1, 11, 1);
        x.sync();
        x.pay(0, 1, 4, 0);
        due(6, "position", x.position(0, 0, 0));
        x.crash();
        x.crash();
        order(0);
        holds(0, 10, 0, 0);
        due(0, "net", x.net(0, 1));
        due(1, "a number is used again", x.pay(0, 2, 1, 0));
        holds(2, 1, 0, 0);
        x.crash();
        due(BAD, "status", x.status(1));
        due(1, "other than before", x.deliver(4, 5, 2, 9));
        order(0, 1);
        due(0, "behind", x.behind(1));
        about("15, a crash before any sync");
        x.issue(0, 0, 10);
        x.limit(0, 1, 3);
        x.advance();
        x.pay(0, 1, 3, 1);
        x.crash();
        holds(0, 0, 0, 0);
        holds(1, 0, 0, 0);
        due(true, "closed: issue", x.issue(0, 0, 10));
        x.advance();
        due(0, "pay", x.pay(0, 1, 4, 1));
        due(1, "there is no limit", x.status(0));
    }

    /** After a crash, all that a sync made sure is asked for, one kind of thing after the other. */
    private void syncKeepsEverything() {
        about("14 and 15, all that is kept");
        x.issue(0, 0, 10);
        x.issue(0, 1, 10);
        x.terms(1, 10, 10);
        x.pledge(0, 1, 5);
        x.limit(0, 1, 20);
        x.advance();
        x.pay(0, 1, 20, 1);
        x.pay(0, 1, 30, 2);
        x.pay(0, 2, 51, 1);
        x.prefer(1, 1);
        x.advance();
        x.sync();
        x.limit(0, 1, 1000);
        x.prefer(2, 0);
        x.cancel(1);
        x.release(0, 1, 1);
        x.advance();
        x.terms(1, 1000, 0);
        x.issue(3, 2, 3);
        x.advance();
        x.pay(0, 1, 7, 1);
        x.crash();
        holds(0, -10, 5, 0);
        holds(1, 20, 0, 0);
        holds(3, 0, 0, 0);
        due(5, "pledged", x.position(0, 1, 1));
        due(45, "line", x.line(0));
        due(20, "net", x.net(0, 1));
        order(1, 2);
        due(1, "behind", x.behind(1));
        due(1, "status", x.status(0));
        due(BAD, "status", x.status(3));
        due(SHORT, "limit", x.limit(0, 1, 19));
        due(SHUT, "cut", x.pay(1, 0, 1, 1));
        due(0, "the limit is 20: pledge", x.pledge(0, 1, 5));
        due(1, "without the limit", x.limit(0, 1, -1));
        due(0, "advance", x.advance());
        due(3, "status", x.status(2));
    }

    private void position() {
        about("16, position");
        x.issue(0, 0, 7);
        x.issue(0, 1, 8);
        x.issue(0, 2, 9);
        x.pledge(0, 1, 3);
        x.pledge(0, 2, 1);
        holds(0, 7, 5, 8);
        due(0, "money pledged", x.position(0, 0, 1));
        due(3, "security 1 pledged", x.position(0, 1, 1));
        due(1, "security 2 pledged", x.position(0, 2, 1));
        for (int p : NO_PARTICIPANTS) {
            due(BAD, "position of " + p, x.position(p, 0, 0));
        }
        for (int n : new int[] {-1, 3, Integer.MIN_VALUE, Integer.MAX_VALUE}) {
            due(BAD, "asset " + n, x.position(0, n, 0));
            due(BAD, "which " + n, x.position(0, 1, n));
        }
        due(BAD, "which 2", x.position(0, 1, 2));
        for (int n = 0; n < 200; n++) {
            x.issue(5, 2, MOST);
        }
        due(200L * MOST, "a great position", x.position(5, 2, 0));
    }

    private void line() {
        about("17, line");
        for (int p : NO_PARTICIPANTS) {
            due(BAD, "line of " + p, x.line(p));
        }
        x.issue(5, 1, 9);
        x.issue(5, 2, 9);
        x.pledge(5, 1, 1);
        x.pledge(5, 2, 1);
        x.terms(1, 1, 1);
        x.terms(2, 1, 1);
        due(0, "each is cut by itself", x.line(5));
        x.pledge(5, 1, 1);
        due(1, "198 / 100", x.line(5));
        x.terms(2, 19, 0);
        due(20, "line", x.line(5));
        due(0, "line of another", x.line(4));
        x.terms(1, 1000, 0);
        for (int n = 0; n < 150; n++) {
            x.issue(4, 1, MOST);
            x.pledge(4, 1, MOST);
        }
        due(150000L * MOST, "a great line", x.line(4));
    }

    private void net() {
        about("18, net");
        x.issue(0, 0, 100);
        x.issue(2, 1, 100);
        x.advance();
        x.pay(0, 1, 30, 1);
        x.pay(1, 0, 10, 1);
        x.exchange(2, 0, 1, 5, 7);
        x.deliver(2, 1, 1, 5);
        due(20, "net(0, 1)", x.net(0, 1));
        due(-20, "net(1, 0)", x.net(1, 0));
        due(7, "net(0, 2)", x.net(0, 2));
        due(-7, "net(2, 0)", x.net(2, 0));
        due(0, "net(2, 1)", x.net(2, 1));
        due(0, "net(0, 0)", x.net(0, 0));
        for (int p : NO_PARTICIPANTS) {
            due(0, "net of " + p, x.net(p, 0));
            due(0, "net to " + p, x.net(0, p));
        }
    }

    private void status() {
        about("19, status");
        x.issue(0, 0, 10);
        x.advance();
        x.pay(0, 1, 10, 1);
        x.pay(0, 1, 10, 1);
        x.pay(0, 1, 10, 1);
        x.cancel(1);
        due(1, "settled", x.status(0));
        due(2, "cancelled", x.status(1));
        due(0, "waits", x.status(2));
        for (int i : new int[] {-1, 3, 40, Integer.MIN_VALUE, Integer.MAX_VALUE}) {
            due(BAD, "status(" + i + ")", x.status(i));
        }
        x.advance();
        x.advance();
        due(3, "returned", x.status(2));
        due(1, "settled", x.status(0));
    }

    private void waitingAndBehind() {
        about("20 and 21, waiting and behind");
        x.limit(0, 1, 0);
        x.advance();
        x.pay(0, 1, 1, 2);
        x.pay(0, 2, 1, 1);
        x.deliver(0, 1, 1, 1);
        x.exchange(0, 3, 1, 1, 1);
        x.exchange(4, 0, 1, 1, 1);
        x.deliver(0, 1, 2, 1);
        x.pay(3, 0, 1, 0);
        x.pay(0, 1, 1, 2);
        order(6, 1, 2, 3, 4, 5, 0, 7);
        int[] due = {0, 0, 0, 2, 1, 0, 2, 3};
        for (int k = 0; k < due.length; k++) {
            due(due[k], "behind(" + k + ")", x.behind(k));
        }
        for (int k : new int[] {-1, 8, 10, 40, Integer.MIN_VALUE, Integer.MAX_VALUE}) {
            due(BAD, "waiting(" + k + ")", x.waiting(k));
            due(BAD, "behind(" + k + ")", x.behind(k));
        }
        due(0, "cancel", x.cancel(1));
        order(6, 2, 3, 4, 5, 0, 7);
        due(1, "behind(5)", x.behind(5));
        due(2, "behind(6)", x.behind(6));
    }
}
