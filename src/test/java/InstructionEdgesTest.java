/** Promises 7 to 12, sentence by sentence: pay, deliver, exchange, cancel, prefer and resolve. */
public final class InstructionEdgesTest extends Edges {
    private static final Scene[] ANY_DAY = {Scene.OPEN, Scene.CLOSED, Scene.CUT, Scene.TEN, Scene.FORTY};
    private static final Scene[] NOT_OPEN = {Scene.NEW, Scene.CLOSED, Scene.CUT, Scene.TEN_CUT, Scene.FORTY_CUT, Scene.FORTY_CLOSED};
    private static final Scene[] NO_ROOM = {Scene.TEN, Scene.FORTY};
    private static final Scene[] SOME_WAIT = {Scene.OPEN, Scene.CUT, Scene.TEN, Scene.TEN_CUT, Scene.FORTY, Scene.FORTY_CUT};

    public static void main(String[] args) throws Exception {
        run(new InstructionEdgesTest());
    }

    // Promise 7: pay

    /** "Accepts a PAYMENT": the first and the last participant, amount 1 .. 1000000, priority 0 .. 2 */
    void payAtTheEndsOfEachRange() {
        x.issue(0, 0, MOST);
        x.issue(0, 0, 1);
        x.issue(5, 0, 1);
        x.advance();
        due(0, "pay(0, 5, 1, 0)", x.pay(0, 5, 1, 0));
        due(1, "pay(0, 5, MOST, 2)", x.pay(0, 5, MOST, 2));
        holds(0, 0, 0, 0);
        holds(5, MOST + 2, 0, 0);
        due(2, "pay(5, 0, MOST, 1)", x.pay(5, 0, MOST, 1));
        holds(5, 2, 0, 0);
        holds(0, MOST, 0, 0);
        due(1, "net(0, 5)", x.net(0, 5));
        statuses(0, 2, 1);
    }

    /** "the priority is not 0 .. 2": each has its place */
    void payHasItsPriority() {
        x.advance();
        due(0, "pay(0, 1, 1, 2)", x.pay(0, 1, 1, 2));
        due(1, "pay(0, 1, 1, 1)", x.pay(0, 1, 1, 1));
        due(2, "pay(0, 1, 1, 0)", x.pay(0, 1, 1, 0));
        order(2, 1, 0);
    }

    /** "BAD when p or q is no participant", and this comes before SHUT and FULL */
    void payBadParticipant() {
        for (Scene scene : ANY_DAY) {
            for (int p : NO_PARTICIPANTS) {
                noPay(scene, BAD, p, 1, 1, 0);
                noPay(scene, BAD, 0, p, 1, 0);
                noPay(scene, BAD, p, p, 1, 0);
            }
        }
    }

    /** "BAD when .. p is q" */
    void payBadWhenTheSame() {
        for (Scene scene : ANY_DAY) {
            for (int p = 0; p < 6; p++) {
                noPay(scene, BAD, p, p, 1, 0);
            }
        }
    }

    /** "BAD when .. the amount is not 1 .. 1000000" */
    void payBadAmount() {
        for (Scene scene : ANY_DAY) {
            for (int amount : NO_AMOUNTS) {
                noPay(scene, BAD, 0, 2, amount, 0);
                noPay(scene, BAD, 5, 4, amount, 2);
            }
        }
    }

    /** "BAD when .. the priority is not 0 .. 2" */
    void payBadPriority() {
        for (Scene scene : ANY_DAY) {
            for (int priority : NO_PRIORITIES) {
                noPay(scene, BAD, 0, 2, 1, priority);
                noPay(scene, BAD, 5, 4, MOST, priority);
            }
        }
    }

    /** "else SHUT when the day is not OPEN": also where it would be FULL */
    void payShut() {
        for (Scene scene : NOT_OPEN) {
            noPay(scene, SHUT, 0, 2, 1, 0);
            noPay(scene, SHUT, 5, 4, MOST, 2);
        }
    }

    /** "else FULL": also what could be settled at once, as 0 could pay 2 */
    void payFull() {
        for (Scene scene : NO_ROOM) {
            noPay(scene, FULL, 0, 2, 1, 0);
            noPay(scene, FULL, 5, 4, MOST, 2);
        }
    }

    /** "Accepts ..; then GOING THROUGH. Answers its number": not how many were settled */
    void payGoesThrough() {
        x.issue(0, 0, 10);
        x.advance();
        due(0, "waits for money", x.pay(1, 2, 10, 1));
        due(1, "waits for money", x.pay(2, 3, 10, 1));
        due(2, "settles itself and both", x.pay(0, 1, 10, 2));
        statuses(0, 2, 1);
        holds(3, 10, 0, 0);
    }

    // Promise 8: deliver

    /** "Accepts a DELIVERY": the first and the last participant and security, amount 1 .. 1000000 */
    void deliverAtTheEndsOfEachRange() {
        x.issue(0, 1, MOST);
        x.issue(0, 1, 1);
        x.issue(5, 2, MOST);
        x.advance();
        due(0, "deliver(0, 5, 1, 1)", x.deliver(0, 5, 1, 1));
        due(1, "deliver(0, 5, 1, MOST)", x.deliver(0, 5, 1, MOST));
        due(2, "deliver(5, 0, 2, MOST)", x.deliver(5, 0, 2, MOST));
        holds(0, 0, 0, MOST);
        holds(5, 0, MOST + 1, 0);
        due(0, "net(0, 5)", x.net(0, 5));
        statuses(0, 2, 1);
    }

    /** "with the priority 1" */
    void deliverHasPriority1() {
        x.advance();
        x.pay(0, 1, 1, 2);
        x.pay(0, 1, 1, 1);
        due(2, "deliver", x.deliver(0, 1, 1, 1));
        x.pay(0, 1, 1, 0);
        x.pay(0, 1, 1, 1);
        order(3, 1, 2, 4, 0);
    }

    /** "BAD when p or q is no participant" */
    void deliverBadParticipant() {
        for (Scene scene : ANY_DAY) {
            for (int p : NO_PARTICIPANTS) {
                noDeliver(scene, BAD, p, 1, 1, 1);
                noDeliver(scene, BAD, 2, p, 1, 1);
                noDeliver(scene, BAD, p, p, 1, 1);
            }
        }
    }

    /** "BAD when .. p is q" */
    void deliverBadWhenTheSame() {
        for (Scene scene : ANY_DAY) {
            for (int p = 0; p < 6; p++) {
                noDeliver(scene, BAD, p, p, 1, 1);
                noDeliver(scene, BAD, p, p, 2, 1);
            }
        }
    }

    /** "BAD when .. the security is none": money is none */
    void deliverBadSecurity() {
        for (Scene scene : ANY_DAY) {
            for (int security : NO_SECURITIES) {
                noDeliver(scene, BAD, 0, 2, security, 1);
                noDeliver(scene, BAD, 2, 3, security, 1);
            }
        }
    }

    /** "BAD when .. the amount is not 1 .. 1000000" */
    void deliverBadAmount() {
        for (Scene scene : ANY_DAY) {
            for (int amount : NO_AMOUNTS) {
                noDeliver(scene, BAD, 2, 3, 1, amount);
                noDeliver(scene, BAD, 5, 0, 2, amount);
            }
        }
    }

    /** "else SHUT .. as with pay()" */
    void deliverShut() {
        for (Scene scene : NOT_OPEN) {
            noDeliver(scene, SHUT, 2, 3, 1, 1);
            noDeliver(scene, SHUT, 0, 5, 2, MOST);
        }
    }

    /** "else .. FULL as with pay()": 2 holds security 1 */
    void deliverFull() {
        for (Scene scene : NO_ROOM) {
            noDeliver(scene, FULL, 2, 3, 1, 1);
            noDeliver(scene, FULL, 0, 5, 2, MOST);
        }
    }

    /** "then GOING THROUGH. Answers its number" */
    void deliverGoesThrough() {
        x.issue(0, 2, 10);
        x.advance();
        due(0, "waits", x.deliver(1, 2, 2, 10));
        due(1, "waits", x.deliver(2, 3, 2, 10));
        due(2, "settles itself and both", x.deliver(0, 1, 2, 10));
        statuses(0, 2, 1);
        holds(3, 0, 0, 10);
    }

    // Promise 9: exchange

    /** "p gives the amount of the security, and q pays money (1 .. 1000000)" */
    void exchangeAtTheEndsOfEachRange() {
        x.issue(0, 1, MOST);
        x.issue(0, 1, 1);
        x.issue(5, 0, MOST);
        x.issue(5, 0, 1);
        x.issue(5, 2, 1);
        x.advance();
        due(0, "exchange(0, 5, 1, MOST, 1)", x.exchange(0, 5, 1, MOST, 1));
        holds(0, 1, 1, 0);
        holds(5, MOST, MOST, 1);
        due(1, "exchange(0, 5, 1, 1, MOST)", x.exchange(0, 5, 1, 1, MOST));
        holds(0, MOST + 1, 0, 0);
        holds(5, 0, MOST + 1, 1);
        due(MOST + 1, "net(5, 0)", x.net(5, 0));
        due(-MOST - 1, "net(0, 5)", x.net(0, 5));
        due(2, "exchange(5, 0, 2, 1, 1)", x.exchange(5, 0, 2, 1, 1));
        holds(0, MOST, 0, 1);
        holds(5, 1, MOST + 1, 0);
        due(MOST, "net(5, 0)", x.net(5, 0));
    }

    /** "with the priority 1" */
    void exchangeHasPriority1() {
        x.advance();
        x.pay(0, 1, 1, 2);
        x.pay(0, 1, 1, 1);
        due(2, "exchange", x.exchange(0, 1, 1, 1, 1));
        x.pay(0, 1, 1, 0);
        x.pay(0, 1, 1, 1);
        order(3, 1, 2, 4, 0);
    }

    private void badExchange(int... arguments) {
        for (Scene scene : ANY_DAY) {
            noExchange(scene, BAD, arguments);
        }
    }

    /** "BAD when one of them is not as said": p and q */
    void exchangeBadParticipant() {
        for (int p : NO_PARTICIPANTS) {
            badExchange(p, 1, 1, 1, 1);
            badExchange(2, p, 1, 1, 1);
            badExchange(p, p, 1, 1, 1);
        }
    }

    /** "BAD when one of them is not as said": the security */
    void exchangeBadSecurity() {
        for (int security : NO_SECURITIES) {
            badExchange(2, 0, security, 1, 1);
            badExchange(1, 0, security, 1, 1);
        }
    }

    /** "BAD when one of them is not as said": the amount */
    void exchangeBadAmount() {
        for (int amount : NO_AMOUNTS) {
            badExchange(2, 0, 1, amount, 1);
            badExchange(3, 5, 2, amount, MOST);
        }
    }

    /** "BAD when one of them is not as said": the money */
    void exchangeBadMoney() {
        for (int money : NO_AMOUNTS) {
            badExchange(2, 0, 1, 1, money);
            badExchange(3, 5, 2, MOST, money);
        }
    }

    /** "BAD when .. p is q" */
    void exchangeBadWhenTheSame() {
        for (int p = 0; p < 6; p++) {
            badExchange(p, p, 1, 1, 1);
            badExchange(p, p, 2, 1, 1);
        }
    }

    /** "else SHUT .. as with pay()" */
    void exchangeShut() {
        for (Scene scene : NOT_OPEN) {
            noExchange(scene, SHUT, new int[] {2, 1, 1, 1, 1});
            noExchange(scene, SHUT, new int[] {0, 5, 2, MOST, MOST});
        }
    }

    /** "else .. FULL as with pay()": 2 holds security 1, and 1 money */
    void exchangeFull() {
        for (Scene scene : NO_ROOM) {
            noExchange(scene, FULL, new int[] {2, 1, 1, 1, 1});
            noExchange(scene, FULL, new int[] {0, 5, 2, MOST, MOST});
        }
    }

    /** "then GOING THROUGH. Answers its number": one waits for the money, one for the security */
    void exchangeGoesThrough() {
        x.issue(0, 1, 10);
        x.issue(1, 0, 7);
        x.advance();
        due(0, "waits", x.pay(0, 2, 7, 1));
        due(1, "waits", x.deliver(1, 3, 1, 10));
        due(2, "settles itself and both", x.exchange(0, 1, 1, 10, 7));
        statuses(0, 2, 1);
        holds(2, 7, 0, 0);
        holds(3, 0, 10, 0);
    }

    // Promise 10: cancel

    /** "An instruction that waits is CANCELLED": the first, one amid and the last, OPEN or CUT */
    void cancelOneThatWaits() {
        for (Scene scene : SOME_WAIT) {
            for (int i : new int[] {6, 7, 5}) {
                x = scene.made();
                due(0, scene + ", cancel(" + i + ")", x.cancel(i));
                due(2, "status(" + i + ")", x.status(i));
                due(BAD, "cancel(" + i + ")", x.cancel(i));
            }
        }
        x = Scene.OPEN.made();
        x.cancel(6);
        order(9, 7, 8, 5);
        x.cancel(5);
        order(9, 7, 8);
        x.cancel(7);
        order(9, 8);
    }

    /** "BAD when it does not wait": there is no such instruction */
    void cancelBadWhenThereIsNone() {
        int[] count = {0, 4, 11, 11, 16, 16, 40, 40, 40};
        for (Scene scene : Scene.ALL) {
            for (int i : outside(0, count[scene.ordinal()] - 1)) {
                noCancel(scene, i);
            }
            noCancel(scene, 40);
        }
    }

    /** "BAD when it does not wait": it is SETTLED, CANCELLED or RETURNED */
    void cancelBadWhenItHasLeft() {
        for (Scene scene : Scene.ALL) {
            for (int i = 0; i < 5; i++) {
                noCancel(scene, i);
            }
        }
        noCancel(Scene.OPEN, 10);
        noCancel(Scene.FORTY, 39);
        noCancel(Scene.FORTY_CLOSED, 5);
        noCancel(Scene.FORTY_CLOSED, 9);
    }

    /** "then GOING THROUGH. Answers how many were settled", the cancelled one not among them */
    void cancelAnswersHowManyWereSettled() {
        x.issue(0, 0, 9);
        x.advance();
        x.pay(0, 1, 10, 1);
        for (int i = 1; i < 10; i++) {
            x.pay(0, 2, 1, 1);
        }
        x.sync();
        due(0, "cancel(9)", x.cancel(9));
        due(8, "cancel(0)", x.cancel(0));
        due(1, "what is left", x.position(0, 0, 0));
        x.crash();
        x.advance();
        due(9, "cancel(0) when the day is cut", x.cancel(0));
        order();
        due(2, "status(0)", x.status(0));
        holds(1, 0, 0, 0);
        holds(2, 9, 0, 0);
    }

    /** A cancelled one is not settled any more, by GOING THROUGH or by RESOLVING. */
    void cancelledIsNeverSettled() {
        x.issue(3, 0, 5);
        x.advance();
        x.pay(0, 1, 5, 1);
        x.pay(1, 0, 5, 1);
        x.cancel(0);
        due(0, "resolve()", x.resolve());
        x.pay(3, 0, 5, 1);
        holds(0, 5, 0, 0);
        due(2, "status(0)", x.status(0));
    }

    // Promise 11: prefer

    /** "An instruction that waits has this priority", 0 .. 2: its place is that of its number */
    void preferEachPriority() {
        x.advance();
        for (int i = 0; i < 9; i++) {
            x.pay(0, 1, 1, i % 3);
        }
        order(0, 3, 6, 1, 4, 7, 2, 5, 8);
        due(0, "prefer(4, 0)", x.prefer(4, 0));
        order(0, 3, 4, 6, 1, 7, 2, 5, 8);
        due(0, "prefer(4, 2)", x.prefer(4, 2));
        order(0, 3, 6, 1, 7, 2, 4, 5, 8);
        due(0, "prefer(4, 1)", x.prefer(4, 1));
        order(0, 3, 6, 1, 4, 7, 2, 5, 8);
        due(0, "prefer(0, 2)", x.prefer(0, 2));
        order(3, 6, 1, 4, 7, 0, 2, 5, 8);
        due(0, "prefer(8, 0)", x.prefer(8, 0));
        order(3, 6, 8, 1, 4, 7, 0, 2, 5);
    }

    /** The priority that it has already changes nothing. */
    void preferTheSamePriority() {
        int[] waiting = {6, 9, 7, 8, 5};
        int[] priorities = {0, 0, 1, 1, 2};
        for (Scene scene : SOME_WAIT) {
            for (int k = 0; k < 5; k++) {
                int i = waiting[k];
                int priority = priorities[k];
                refused(scene, 0, "prefer(" + i + ", " + priority + ")", y -> y.prefer(i, priority));
            }
        }
    }

    /** With ten that wait, none is lost and none comes twice. */
    void preferAmongTen() {
        x = Scene.TEN.made();
        due(0, "prefer(13, 0)", x.prefer(13, 0));
        order(6, 9, 11, 13, 7, 8, 12, 14, 15, 5);
        due(0, "prefer(6, 2)", x.prefer(6, 2));
        order(9, 11, 13, 7, 8, 12, 14, 15, 5, 6);
        due(FULL, "pay", x.pay(0, 2, 1, 0));
    }

    /** "BAD when it does not wait": there is no such instruction, or it has left */
    void preferBadWhenItDoesNotWait() {
        int[] count = {0, 4, 11, 11, 16, 16, 40, 40, 40};
        for (Scene scene : Scene.ALL) {
            for (int i : outside(0, count[scene.ordinal()] - 1)) {
                noPrefer(scene, i, 0);
            }
            for (int i = 0; i < 5; i++) {
                noPrefer(scene, i, 0);
                noPrefer(scene, i, 2);
            }
        }
        noPrefer(Scene.FORTY, 39, 1);
        noPrefer(Scene.FORTY_CLOSED, 9, 0);
    }

    /** "BAD when .. the priority is not 0 .. 2" */
    void preferBadPriority() {
        for (Scene scene : SOME_WAIT) {
            for (int priority : NO_PRIORITIES) {
                noPrefer(scene, 6, priority);
                noPrefer(scene, 7, priority);
                noPrefer(scene, 5, priority);
            }
        }
    }

    /** "then GOING THROUGH. Answers how many were settled" */
    void preferAnswersHowManyWereSettled() {
        x.issue(0, 0, 9);
        x.advance();
        x.pay(0, 1, 10, 1);
        for (int i = 1; i < 10; i++) {
            x.pay(0, 2, 1, 1);
        }
        x.sync();
        due(1, "one before the first", x.prefer(9, 0));
        due(0, "the first first", x.prefer(0, 0));
        x.crash();
        x.advance();
        due(9, "the first last, when the day is cut", x.prefer(0, 2));
        order(0);
        due(0, "status(0)", x.status(0));
        holds(2, 9, 0, 0);
    }

    /** A new priority is kept: it counts against those accepted later. */
    void preferIsKept() {
        x.advance();
        x.pay(0, 1, 1, 1);
        x.prefer(0, 2);
        x.pay(2, 1, 1, 2);
        x.pay(3, 1, 1, 1);
        order(2, 0, 1);
        x.prefer(0, 0);
        x.pay(4, 1, 1, 0);
        order(0, 3, 2, 1);
    }

    // Promise 12: resolve

    /** "Answers how many were settled": none where none wait, or none can */
    void resolveNone() {
        for (Scene scene : Scene.ALL) {
            refused(scene, 0, "resolve()", GrossSettlement::resolve);
        }
    }

    /** "whatever the day is": when CLOSED none wait */
    void resolveOnEachDay() {
        for (int day = 1; day < 3; day++) {
            x = new GrossSettlement();
            x.advance();
            x.pay(0, 5, MOST, 0);
            x.pay(5, 0, MOST, 2);
            for (int n = 1; n < day; n++) {
                x.advance();
            }
            due(2, "day " + day + ", resolve()", x.resolve());
            statuses(0, 1, 1);
            holds(0, 0, 0, 0);
        }
        x = new GrossSettlement();
        x.advance();
        x.pay(0, 5, MOST, 0);
        x.pay(5, 0, MOST, 2);
        x.advance();
        x.advance();
        due(0, "day 0, resolve()", x.resolve());
        statuses(0, 1, 3);
    }

    /** All ten that may wait, in one ring over all participants */
    void resolveTen() {
        x.advance();
        for (int i = 0; i < 10; i++) {
            x.pay(i % 5, (i + 1) % 5, 7, i % 3);
        }
        order(0, 3, 6, 9, 1, 4, 7, 2, 5, 8);
        due(10, "resolve()", x.resolve());
        order();
        statuses(0, 9, 1);
        due(14, "net(4, 0)", x.net(4, 0));
        holds(0, 0, 0, 0);
        due(10, "there is room again", x.pay(0, 1, 1, 1));
    }

    /** What is left by RESOLVING keeps its order and may settle later. */
    void resolveLeavesTheOthers() {
        x.advance();
        x.pay(3, 4, 2, 2);
        x.pay(0, 1, 7, 1);
        x.deliver(4, 5, 1, 1);
        x.pay(1, 0, 7, 1);
        x.pay(5, 3, 1, 0);
        due(2, "resolve()", x.resolve());
        order(4, 2, 0);
        due(0, "resolve()", x.resolve());
        order(4, 2, 0);
    }
}
