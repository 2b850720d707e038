import java.util.ArrayList;
import java.util.Arrays;
import java.util.Collections;
import java.util.List;
import java.util.Random;
import java.util.Set;

/** The section "Terms" of the document, sentence by sentence. */
public final class TermsEdgesTest extends Edges {
    public static void main(String[] args) throws Exception {
        run(new TermsEdgesTest());
    }

    // Participants, assets, what is held and pledged

    /** "PARTICIPANTS 0 .. 5, ASSETS 0 (MONEY), 1 and 2 (SECURITIES)": each holds of each for itself */
    void eachHoldsForItself() {
        for (int p = 0; p < 6; p++) {
            for (int asset = 0; asset < 3; asset++) {
                due(true, "issue", x.issue(p, asset, 1 + 3 * p + asset));
            }
        }
        for (int p = 0; p < 6; p++) {
            holds(p, 1 + 3 * p, 2 + 3 * p, 3 + 3 * p);
        }
    }

    /** "has PLEDGED an amount of each security, which it does not hold then": it can't be given or pledged again */
    void whatIsPledgedIsNotHeld() {
        x.issue(0, 1, 10);
        x.pledge(0, 1, 4);
        holds(0, 0, 6, 0);
        due(SHORT, "pledge(0, 1, 7)", x.pledge(0, 1, 7));
        x.advance();
        x.deliver(0, 1, 1, 7);
        order(0);
        x.deliver(0, 1, 1, 6);
        order(0, 1);
        due(1, "cancel(0)", x.cancel(0));
        holds(1, 0, 6, 0);
        due(4, "pledged", x.position(0, 1, 1));
    }

    /** "A security has a PRICE .. and a HAIRCUT .., both 0 at first" */
    void termsAre0AtFirst() {
        for (int security = 1; security < 3; security++) {
            x.issue(0, security, MOST);
            x.pledge(0, security, MOST);
        }
        due(0, "line(0)", x.line(0));
        x.advance();
        x.pay(0, 1, 1, 1);
        order(0);
    }

    // The line

    /** "the sum, over both securities, of pledged * price * (100 - haircut) / 100" */
    void lineIsASum() {
        x.issue(4, 1, 100);
        x.issue(4, 2, 100);
        x.terms(1, 30, 25);
        x.terms(2, 200, 90);
        x.pledge(4, 1, 10);
        due(225, "line(4)", x.line(4));
        x.pledge(4, 2, 3);
        due(285, "line(4)", x.line(4));
        x.release(4, 1, 10);
        due(60, "line(4)", x.line(4));
        due(0, "line(3)", x.line(3));
    }

    /** "each cut to a whole number": 0.99 and 0.99 are 0, not 1; 1.99 and 0.99 are 1; 1.00 is 1 */
    void lineCutsEach() {
        x.issue(0, 1, 200);
        x.issue(0, 2, 200);
        x.terms(1, 1, 1);
        x.terms(2, 1, 1);
        x.pledge(0, 1, 1);
        x.pledge(0, 2, 1);
        due(0, "0.99 and 0.99", x.line(0));
        x.pledge(0, 1, 1);
        due(1, "1.98 and 0.99", x.line(0));
        x.pledge(0, 1, 98);
        due(99, "99.00 and 0.99", x.line(0));
        x.pledge(0, 1, 1);
        due(99, "99.99 and 0.99", x.line(0));
        x.pledge(0, 1, 1);
        due(100, "100.98 and 0.99", x.line(0));
        x.terms(2, 199, 99);
        due(101, "100.98 and 1.99", x.line(0));
        x.terms(2, 100, 99);
        due(101, "100.98 and 1.00", x.line(0));
        x.terms(2, 99, 99);
        due(100, "100.98 and 0.99", x.line(0));
    }

    /** It is cut once, at the end: pledged, price and what the haircut leaves are multiplied before. */
    void lineIsCutAtTheEnd() {
        x.issue(0, 1, 7);
        x.pledge(0, 1, 7);
        x.terms(1, 15, 50);
        due(52, "7 * 15 * 50 / 100", x.line(0));
        x.terms(1, 3, 67);
        due(6, "7 * 3 * 33 / 100", x.line(0));
    }

    // Limits and NET

    /** "there may be a LIMIT(p, q)": of these two in this order, for each two */
    void limitOfEach() {
        for (int p = 0; p < 6; p++) {
            for (int q = 0; q < 6; q++) {
                if (p != q) {
                    oneLimit(p, q);
                }
            }
        }
    }

    private void oneLimit(int p, int q) {
        x = new GrossSettlement();
        for (int i = 0; i < 6; i++) {
            x.issue(i, 0, 100);
        }
        x.limit(p, q, 3);
        x.advance();
        int others = 0;
        for (int i = 0; i < 6; i++) {
            for (int j = 0; j < 6; j++) {
                if (i != j && (i != p || j != q)) {
                    x.pay(i, j, 1, 0);
                    others++;
                }
            }
        }
        statuses(0, others - 1, 1);
        due(-1, "net(p, q)", x.net(p, q));
        due(others, "pay(p, q, 5, 0)", x.pay(p, q, 5, 0));
        due(0, "above the limit", x.status(others));
        x.cancel(others);
        x.pay(p, q, 4, 0);
        due(1, "up to the limit", x.status(others + 1));
    }

    /** "NET .. is -NET(q, p)", and of no other two */
    void netIsMinusTheOther() {
        x.issue(2, 0, 10);
        x.advance();
        x.pay(2, 4, 10, 1);
        for (int p = 0; p < 6; p++) {
            for (int q = 0; q < 6; q++) {
                int want = p == 2 && q == 4 ? 10 : p == 4 && q == 2 ? -10 : 0;
                due(want, "net(" + p + ", " + q + ")", x.net(p, q));
            }
        }
    }

    // Floors

    /** "what p holds of a as its VALUE and the FLOOR 0": all may be given, not one more */
    void floorOfASecurity() {
        for (int p = 0; p < 6; p++) {
            for (int security = 1; security < 3; security++) {
                x = new GrossSettlement();
                x.issue(p, security, 5);
                x.issue(p, 3 - security, 50);
                x.terms(3 - security, 9, 0);
                x.pledge(p, 3 - security, 50);
                x.advance();
                x.deliver(p, (p + 1) % 6, security, 6);
                order(0);
                x.cancel(0);
                x.deliver(p, (p + 1) % 6, security, 5);
                order();
                due(0, "held", x.position(p, security, 0));
                x.deliver(p, (p + 1) % 6, security, 1);
                order(2);
            }
        }
    }

    /** "but minus the line of p if a is money" */
    void floorOfMoney() {
        for (int p = 0; p < 6; p++) {
            x = new GrossSettlement();
            x.issue(p, 0, 5);
            x.issue(p, 1, 3);
            x.issue(p, 2, 7);
            x.terms(1, 1, 0);
            x.terms(2, 1, 0);
            x.pledge(p, 1, 3);
            x.advance();
            x.pay(p, (p + 1) % 6, 9, 1);
            order(0);
            x.cancel(0);
            x.pay(p, (p + 1) % 6, 8, 1);
            order();
            due(-3, "money of " + p, x.position(p, 0, 0));
            x.pay(p, (p + 1) % 6, 1, 1);
            order(2);
            due(1, "more is pledged", x.pledge(p, 2, 1));
            due(-4, "money of " + p, x.position(p, 0, 0));
        }
    }

    /** "(p to q) for each limit there is, with LIMIT(p, q) - NET(p, q) as its value and the floor 0" */
    void floorOfALimit() {
        x.issue(0, 0, 100);
        x.issue(1, 0, 100);
        x.limit(0, 1, 10);
        x.advance();
        x.pay(0, 1, 11, 1);
        order(0);
        x.cancel(0);
        x.pay(0, 1, 10, 1);
        order();
        x.pay(1, 0, 4, 1);
        x.pay(0, 1, 5, 1);
        order(3);
        x.cancel(3);
        x.pay(0, 1, 4, 1);
        order();
        due(10, "net(0, 1)", x.net(0, 1));
    }

    /** An exchange pays from q to p: it counts for LIMIT(q, p), and gives room for p to q. */
    void floorOfALimitAndExchange() {
        x.issue(0, 1, 100);
        x.issue(1, 0, 100);
        x.limit(1, 0, 10);
        x.limit(0, 1, 0);
        x.advance();
        x.exchange(0, 1, 1, 1, 11);
        order(0);
        x.cancel(0);
        x.exchange(0, 1, 1, 1, 10);
        order();
        x.pay(0, 1, 10, 1);
        order();
        x.pay(0, 1, 1, 1);
        order(3);
    }

    /** A delivery, in which nothing is paid, needs no room under a limit. */
    void deliveryIsNotLimited() {
        x.issue(0, 1, 5);
        x.limit(0, 1, 0);
        x.limit(1, 0, 0);
        x.advance();
        x.deliver(0, 1, 1, 5);
        order();
        holds(1, 0, 5, 0);
    }

    /** "No position is ever below its floor": whatever is called */
    void noPositionIsEverBelowItsFloor() {
        for (int run = 0; run < 60; run++) {
            x = new GrossSettlement();
            Random random = new Random(run);
            int[][] limits = new int[6][6];
            for (int[] row : limits) {
                Arrays.fill(row, -1);
            }
            for (int n = 0; n < 6; n++) {
                for (int step = 0; step < 60; step++) {
                    anyCall(random, limits);
                }
                due(true, "run " + run + ", no position is below its floor", allAtOrAboveTheirFloors(limits));
            }
        }
    }

    private void anyCall(Random random, int[][] limits) {
        int p = random.nextInt(3);
        int q = (p + 1 + random.nextInt(2)) % 3;
        int security = 1 + random.nextInt(2);
        int amount = 1 + random.nextInt(12);
        switch (random.nextInt(12)) {
            case 0 -> x.issue(p, security, amount);
            case 1 -> x.terms(security, random.nextInt(4), random.nextInt(101));
            case 2 -> x.pledge(p, security, amount);
            case 3 -> x.release(p, security, 1 + amount / 4);
            case 4 -> {
                if (x.limit(p, q, amount - 2) >= 0) {
                    limits[p][q] = amount - 2;
                }
            }
            case 5, 6, 7 -> x.pay(p, q, amount, random.nextInt(3));
            case 8 -> x.deliver(p, q, security, amount);
            case 9 -> x.exchange(p, q, security, 1 + amount / 4, amount);
            case 10 -> x.resolve();
            default -> {
                if (random.nextInt(4) == 0) {
                    x.advance();
                }
            }
        }
    }

    private boolean allAtOrAboveTheirFloors(int[][] limits) {
        for (int p = 0; p < 3; p++) {
            if (x.position(p, 0, 0) < -x.line(p) || x.position(p, 1, 0) < 0 || x.position(p, 2, 0) < 0) {
                return false;
            }
            for (int q = 0; q < 3; q++) {
                if (limits[p][q] != -1 && x.net(p, q) > limits[p][q]) {
                    return false;
                }
            }
        }
        return true;
    }

    // Instructions

    /** "INSTRUCTIONS have numbers 0, 1, .. in the order in which they were accepted": a refused one takes none */
    void numbersInTheOrderOfAcceptance() {
        due(SHUT, "pay", x.pay(0, 1, 1, 1));
        x.advance();
        due(0, "pay", x.pay(0, 1, 1, 2));
        due(BAD, "pay", x.pay(0, 0, 1, 1));
        due(1, "deliver", x.deliver(0, 1, 1, 1));
        due(BAD, "deliver", x.deliver(0, 1, 0, 1));
        due(BAD, "exchange", x.exchange(0, 1, 1, 0, 1));
        due(2, "exchange", x.exchange(0, 1, 1, 1, 1));
        due(3, "pay", x.pay(0, 1, 1, 0));
        for (int i = 4; i < 10; i++) {
            due(i, "pay", x.pay(0, 1, 1, 0));
        }
        due(FULL, "pay", x.pay(0, 1, 1, 0));
        due(0, "cancel(5)", x.cancel(5));
        due(10, "pay", x.pay(0, 1, 1, 0));
    }

    /** "at most 40": the one with the number 39 is the last, whatever has become of the others */
    void atMost40() {
        x.issue(0, 0, 100);
        x.advance();
        for (int i = 0; i < 10; i++) {
            due(i, "settled", x.pay(0, 1, 1, 1));
        }
        for (int i = 10; i < 20; i++) {
            due(i, "cancelled", x.pay(5, 1, 1, 1));
            due(0, "cancel", x.cancel(i));
        }
        for (int i = 20; i < 30; i++) {
            due(i, "returned", x.deliver(5, 1, 1, 1));
        }
        x.advance();
        x.advance();
        x.advance();
        for (int i = 30; i < 39; i++) {
            due(i, "waits", x.exchange(5, 1, 1, 1, 1));
        }
        due(39, "the last, and tenth that waits", x.pay(5, 1, 1, 0));
        due(FULL, "40 are there, and ten wait", x.pay(0, 1, 1, 0));
        due(0, "cancel(39)", x.cancel(39));
        due(FULL, "40 are there, and nine wait", x.pay(0, 1, 1, 0));
        for (int i = 30; i < 39; i++) {
            x.cancel(i);
        }
        due(FULL, "40 are there, and none waits", x.pay(0, 1, 1, 0));
        due(FULL, "40 are there, and none waits", x.deliver(5, 1, 1, 1));
        due(FULL, "40 are there, and none waits", x.exchange(5, 1, 1, 1, 1));
        due(2, "status(39)", x.status(39));
        due(BAD, "status(40)", x.status(40));
        holds(0, 90, 0, 0);
    }

    /** "To SETTLE it is to move all that it names at once": not the security without the money */
    void exchangeIsShortOfMoney() {
        x.issue(0, 1, 5);
        x.issue(1, 0, 6);
        x.advance();
        x.exchange(0, 1, 1, 5, 7);
        order(0);
        holds(0, 0, 5, 0);
        holds(1, 6, 0, 0);
        due(0, "net(1, 0)", x.net(1, 0));
        x.cancel(0);
        x.exchange(0, 1, 1, 5, 6);
        holds(0, 6, 0, 0);
        holds(1, 0, 5, 0);
        due(6, "net(1, 0)", x.net(1, 0));
    }

    /** .. nor the money without the security */
    void exchangeIsShortOfTheSecurity() {
        x.issue(0, 2, 5);
        x.issue(1, 0, 7);
        x.advance();
        x.exchange(0, 1, 2, 6, 7);
        order(0);
        holds(0, 0, 0, 5);
        holds(1, 7, 0, 0);
        due(0, "net(1, 0)", x.net(1, 0));
        x.cancel(0);
        x.exchange(0, 1, 2, 5, 7);
        holds(0, 7, 0, 0);
        holds(1, 0, 0, 5);
    }

    /** What an exchange brings can't be given in it: p can't pay with what it gets, nor give what it buys. */
    void exchangeNeedsItsOwn() {
        x.issue(0, 1, 5);
        x.advance();
        x.exchange(0, 1, 1, 5, 1);
        order(0);
        x.exchange(1, 0, 1, 5, 1);
        order(0, 1);
        behinds(0, 0);
        due(2, "both together", x.resolve());
        holds(0, 0, 5, 0);
        holds(1, 0, 0, 0);
    }

    /**
     * "It DEBITS the positions (payer, money), (payer to payed), if that is there, and (giver, the
     * security)", and "BEHIND .. if .. both debit the same position": any two among three participants
     */
    void whatEachDebits() {
        List<Call> calls = new ArrayList<>();
        List<Set<String>> debits = new ArrayList<>();
        for (int n = 0; n < 9; n++) {
            int p = n / 3;
            int q = n % 3;
            if (p == q) {
                continue;
            }
            calls.add(y -> y.pay(p, q, 9, 1));
            debits.add(Set.of(p + " money", p + " to " + q));
            for (int security = 1; security < 3; security++) {
                int given = security;
                calls.add(y -> y.deliver(p, q, given, 9));
                debits.add(Set.of(p + " security " + given));
                calls.add(y -> y.exchange(p, q, given, 9, 9));
                debits.add(Set.of(q + " money", q + " to " + p, p + " security " + given));
            }
        }
        for (int i = 0; i < calls.size(); i++) {
            for (int j = 0; j < calls.size(); j++) {
                boolean isBehind = !Collections.disjoint(debits.get(i), debits.get(j));
                behindPair(isBehind ? 1 : 0, calls.get(i), calls.get(j));
            }
        }
    }

    /** With all limits there are and with none, since a position (p to q) adds nothing here. */
    private void behindPair(int want, Call first, Call second) {
        for (int limit = -1; limit < 1; limit++) {
            x = new GrossSettlement();
            for (int p = 0; p < 6; p++) {
                for (int q = 0; q < 6; q++) {
                    x.limit(p, q, limit);
                }
            }
            x.advance();
            due(0, "the first", first.on(x));
            due(1, "the second", second.on(x));
            due(0, "behind(0)", x.behind(0));
            due(want, "behind(1)", x.behind(1));
        }
    }

    /** "It WAITS from when it was accepted until it is SETTLED, CANCELLED or RETURNED" */
    void waitsUntilItLeaves() {
        x.advance();
        x.pay(0, 1, 1, 1);
        x.pay(1, 0, 1, 1);
        x.pay(2, 1, 1, 1);
        x.pay(3, 1, 1, 1);
        order(0, 1, 2, 3);
        x.resolve();
        order(2, 3);
        x.cancel(2);
        order(3);
        x.advance();
        order(3);
        x.advance();
        order();
        statuses(0, 1, 1);
        statuses(2, 2, 2);
        statuses(3, 3, 3);
    }

    // The order

    /** "those with the lesser priority come first, of the same priority those with the lesser number" */
    void orderOfThoseThatWait() {
        x.advance();
        int[] priorities = {2, 0, 1, 2, 1, 0, 0, 2, 1, 1};
        for (int i = 0; i < 10; i++) {
            x.pay(0, 1, 1, priorities[i]);
        }
        order(1, 5, 6, 2, 4, 8, 9, 0, 3, 7);
    }

    /** "At most 10 wait": the tenth is accepted, and the eleventh when one has left */
    void atMost10Wait() {
        x.issue(0, 0, 100);
        x.issue(0, 1, 100);
        x.advance();
        for (int i = 0; i < 10; i++) {
            due(i, "pay", x.pay(5, 1, 1, i % 3));
        }
        due(FULL, "the eleventh", x.pay(5, 1, 1, 0));
        due(FULL, "even if it could settle", x.pay(0, 1, 1, 0));
        due(FULL, "even if it could settle", x.deliver(0, 1, 1, 1));
        due(FULL, "even if it could settle", x.exchange(0, 1, 1, 1, 1));
        due(FULL, "even if it would settle all", x.pay(0, 5, 50, 0));
        due(0, "cancel(0)", x.cancel(0));
        due(10, "nine wait", x.pay(0, 5, 3, 0));
        order(1, 4, 7, 2, 5, 8);
        statuses(10, 10, 1);
        for (int i = 11; i < 15; i++) {
            due(i, "pay", x.pay(4, 1, 1, 1));
        }
        due(FULL, "ten wait again", x.pay(0, 1, 1, 0));
        x.advance();
        x.advance();
        x.advance();
        due(15, "all are returned", x.pay(4, 1, 1, 0));
    }

    /** "BEHIND another one if it comes later in the order": which prefer() turns round */
    void behindIsLaterInTheOrder() {
        x.advance();
        x.pay(0, 1, 1, 1);
        x.pay(0, 2, 1, 1);
        behinds(0, 1);
        x.prefer(0, 2);
        order(1, 0);
        behinds(0, 1);
        x.deliver(0, 1, 1, 1);
        order(1, 2, 0);
        behinds(0, 0, 1);
    }

    // Going through

    /** ".. is not behind another one that waits": though it could be settled */
    void goingThroughLeavesWhatIsBehind() {
        x.issue(0, 0, 5);
        x.advance();
        x.pay(0, 1, 6, 1);
        x.pay(0, 2, 1, 1);
        x.exchange(3, 0, 1, 1, 1);
        order(0, 1, 2);
        holds(0, 5, 0, 0);
        due(1, "cancel(0)", x.cancel(0));
        order(2);
    }

    /** "the first instruction in the order that ..": those before it that can't settle are passed over */
    void goingThroughPassesOver() {
        x.issue(2, 0, 5);
        x.advance();
        x.pay(0, 1, 6, 0);
        x.deliver(1, 2, 1, 1);
        x.pay(2, 3, 5, 2);
        order(0, 1);
        statuses(2, 2, 1);
    }

    /**
     * "the first .. is settled": an exchange goes before a delivery of the same security. That two
     * which are not behind any other could not both settle never happens, for they debit nothing in
     * common; so the order shows only in what is behind what.
     */
    void goingThroughTakesTheFirst() {
        x.issue(0, 0, 10);
        x.issue(2, 1, 1);
        x.advance();
        x.pay(0, 5, 15, 0);
        x.exchange(2, 0, 1, 1, 8);
        x.deliver(2, 3, 1, 1);
        order(0, 1, 2);
        due(1, "cancel(0)", x.cancel(0));
        statuses(1, 1, 1);
        order(2);
    }

    /** "and so again": from the first on, so that an earlier one comes before a later one after each settling */
    void goingThroughBeginsAnew() {
        x.issue(3, 0, 10);
        x.advance();
        x.pay(3, 5, 11, 0);
        x.pay(1, 2, 10, 0);
        x.pay(3, 1, 10, 1);
        x.pay(1, 4, 10, 2);
        order(0, 1, 2, 3);
        due(2, "cancel(0)", x.cancel(0));
        order(3);
        statuses(1, 2, 1);
        holds(2, 10, 0, 0);
    }

    /** "and so again, until there is none": a chain of ten, twice round five participants */
    void goingThroughTen() {
        x.issue(5, 0, 1);
        x.advance();
        for (int i = 0; i < 9; i++) {
            due(i, "pay", x.pay(i % 5, (i + 1) % 5, 1, 1));
        }
        order(0, 1, 2, 3, 4, 5, 6, 7, 8);
        due(9, "the one for which all wait", x.pay(5, 0, 1, 2));
        order();
        statuses(0, 9, 1);
        holds(4, 1, 0, 0);
        x = new GrossSettlement();
        x.issue(0, 0, 1);
        x.limit(0, 1, 0);
        x.advance();
        for (int i = 0; i < 10; i++) {
            x.pay(i % 2, 1 - i % 2, 1, i % 3);
        }
        due(10, "back and forth", x.limit(0, 1, 1));
        order();
        holds(0, 1, 0, 0);
    }

    // Resolving

    /** "CLOSED if with each one it has all that wait and that it is behind": what is before a ring holds it back */
    void resolvingNeedsWhatIsBefore() {
        x.advance();
        x.pay(0, 2, 1, 0);
        x.pay(0, 1, 5, 1);
        x.pay(1, 0, 5, 1);
        due(0, "resolve()", x.resolve());
        order(0, 1, 2);
        x.pay(2, 0, 1, 2);
        due(4, "all of it", x.resolve());
        order();
    }

    /** .. and what is behind a ring does not */
    void resolvingLeavesWhatIsBehind() {
        x.advance();
        x.pay(0, 1, 5, 1);
        x.pay(1, 0, 5, 1);
        x.pay(0, 2, 1, 1);
        due(2, "resolve()", x.resolve());
        order(2);
    }

    /** .. also what is behind an exchange in one position only, when it is left out for the other one */
    void resolvingLeavesOutWhatIsBehindAnExchange() {
        x.advance();
        x.exchange(0, 1, 1, 1, 9);
        x.pay(1, 2, 3, 1);
        x.pay(2, 1, 3, 1);
        due(0, "0 is short of the security", x.resolve());
        order(0, 1, 2);
        due(0, "prefer(0, 2)", x.prefer(0, 2));
        due(2, "the exchange is behind them now", x.resolve());
        order(0);
        x = new GrossSettlement();
        x.issue(1, 0, 8);
        x.advance();
        x.exchange(0, 1, 2, 1, 9);
        x.deliver(0, 3, 2, 4);
        x.deliver(3, 0, 2, 5);
        due(0, "1 is short of money", x.resolve());
        order(0, 1, 2);
    }

    /** "COVERED if .. no position is below its floor in the end": just the floor, and one below it */
    void resolvingToTheFloor() {
        for (int amount = 7; amount < 9; amount++) {
            x = new GrossSettlement();
            x.issue(0, 0, 1);
            x.issue(0, 2, 4);
            x.terms(2, 1, 50);
            x.pledge(0, 2, 4);
            x.limit(1, 0, 9);
            x.advance();
            x.pay(0, 1, 5 + amount, 1);
            x.pay(1, 0, 9, 1);
            int want = amount == 7 ? 2 : 0;
            due(want, "amount " + amount + ", resolve()", x.resolve());
            due(want == 2 ? -2 : 1, "money of 0", x.position(0, 0, 0));
        }
    }

    /** .. of a limit: just the limit, and one above it */
    void resolvingToTheLimit() {
        for (int limit = 3; limit < 5; limit++) {
            x = new GrossSettlement();
            x.issue(0, 0, 4);
            x.limit(0, 1, limit);
            x.advance();
            x.pay(0, 1, 9, 1);
            x.pay(1, 0, 5, 1);
            int want = limit == 4 ? 2 : 0;
            due(want, "limit " + limit + ", resolve()", x.resolve());
            due(want * 2, "net(0, 1)", x.net(0, 1));
        }
    }

    /** .. of a security: a ring of deliveries that takes all there is, and one too many */
    void resolvingSecurities() {
        for (int held = 1; held < 3; held++) {
            x = new GrossSettlement();
            x.issue(3, 2, held);
            x.advance();
            x.deliver(3, 4, 2, 9);
            x.deliver(4, 5, 2, 9);
            x.deliver(5, 3, 2, 7);
            due(held == 2 ? 3 : 0, held + " held, resolve()", x.resolve());
        }
    }

    /** "in the end": in between there may be less, so that no order of settling one by one would do */
    void resolvingInTheEnd() {
        x.advance();
        x.exchange(0, 1, 1, 5, 9);
        x.exchange(1, 0, 1, 5, 9);
        x.pay(2, 3, MOST, 0);
        x.pay(3, 4, MOST, 1);
        x.pay(4, 2, MOST, 2);
        due(5, "resolve()", x.resolve());
        for (int p = 0; p < 5; p++) {
            holds(p, 0, 0, 0);
        }
        due(MOST, "net(2, 3)", x.net(2, 3));
        due(0, "net(0, 1)", x.net(0, 1));
    }

    /** "All sets .. put together are such a set again": rings apart, and a ring that feeds one more */
    void resolvingAllTogether() {
        x.issue(0, 0, 1);
        x.advance();
        x.pay(0, 1, 6, 1);
        x.pay(1, 0, 5, 1);
        x.deliver(2, 3, 1, 7);
        x.deliver(3, 2, 1, 7);
        x.pay(1, 4, 1, 1);
        x.pay(4, 5, 1, 1);
        x.pay(5, 3, 2, 1);
        due(6, "resolve()", x.resolve());
        order(6);
        holds(5, 1, 0, 0);
    }

    /** Where a position is below its floor, those that come later but do not debit it stay in the set. */
    void resolvingLeavesOutOnlyWhatDebits() {
        x.advance();
        x.pay(0, 1, 5, 0);
        x.pay(0, 2, 1, 1);
        x.pay(1, 0, 5, 2);
        due(2, "a payment to 0 comes last", x.resolve());
        order(1);
        x.deliver(0, 3, 1, 7);
        x.deliver(3, 0, 1, 7);
        due(2, "deliveries come last", x.resolve());
        order(1);
        x.exchange(0, 4, 2, 1, 2);
        x.exchange(4, 5, 2, 1, 2);
        x.exchange(5, 0, 2, 1, 1);
        order(1, 5, 6, 7);
        due(0, "7 is behind 1, and 5 and 6 need 7", x.resolve());
        due(0, "prefer(1, 2)", x.prefer(1, 2));
        due(0, "5 is short of money", x.resolve());
        x.pay(0, 5, 1, 1);
        order(5, 6, 7, 8, 1);
        due(4, "exchanges", x.resolve());
        order(1);
        holds(0, 0, 0, 0);
    }

    /** What one set leaves out another may need: leaving out goes on until all is closed and covered. */
    void resolvingLeavesOutInTurn() {
        x.advance();
        x.pay(0, 1, 5, 1);
        x.pay(1, 2, 5, 1);
        x.pay(2, 3, 5, 1);
        x.pay(3, 4, 5, 1);
        x.pay(4, 0, 4, 1);
        due(0, "one too few from 4", x.resolve());
        order(0, 1, 2, 3, 4);
        x.pay(4, 0, 1, 1);
        due(6, "and that one", x.resolve());
    }

    // The constants, and how long an object is used

    /** "BAD = -1", "SHUT = -2", "FULL = -3", "SHORT = -4" */
    void constants() {
        due(-1, "BAD", GrossSettlement.BAD);
        due(-2, "SHUT", GrossSettlement.SHUT);
        due(-3, "FULL", GrossSettlement.FULL);
        due(-4, "SHORT", GrossSettlement.SHORT);
    }

    /** "An object is used for at most 512 calls": the 512th answers as the first would */
    void the512thCall() {
        x.issue(0, 0, 10);
        x.advance();
        x.pay(0, 1, 11, 1);
        x.sync();
        for (int n = 0; n < 126; n++) {
            x.pay(0, 1, 10, 0);
            x.pledge(0, 1, 1);
            x.advance();
            x.crash();
        }
        due(10, "position(0, 0, 0)", x.position(0, 0, 0));
        due(0, "status(0)", x.status(0));
        due(BAD, "status(1)", x.status(1));
        due(2, "the 512th", x.advance());
    }
}
