/**
 * "An object is used for at most 512 calls after it has been made": runs of all 512 of them on one
 * object, with answers that are worked out by hand. What is asked last is asked after all the others.
 */
public final class LongRunsTest extends Edges {
    private static final int CALLS = 512;
    private int calls;

    public static void main(String[] args) throws Exception {
        run(new LongRunsTest());
    }

    private void begin() {
        x = new GrossSettlement();
        calls = 0;
    }

    private void end() {
        due(CALLS, "calls of this run", calls);
    }

    private void ask(long want, String call, long got) {
        calls++;
        due(want, "call " + calls + ", " + call, got);
    }

    private void ask(boolean want, String call, boolean got) {
        ask(want ? 1 : 0, call, got ? 1 : 0);
    }

    private void sync() {
        calls++;
        x.sync();
    }

    private void crash() {
        calls++;
        x.crash();
    }

    /** The same call with the same answer again and again, until so many calls were made. */
    private void fill(int last, long want, String text, Call call) {
        while (calls < last) {
            ask(want, text, call.on(x));
        }
    }

    void issuedIsAdded() {
        begin();
        for (int n = 1; n <= 255; n++) {
            ask(true, "issue", x.issue(5, 0, MOST));
            ask((long) n * MOST, "position", x.position(5, 0, 0));
        }
        ask(true, "issue", x.issue(5, 0, 1));
        ask(255L * MOST + 1, "position", x.position(5, 0, 0));
        end();
    }

    void theDayGoesRound() {
        begin();
        while (calls < CALLS) {
            ask((calls + 1) % 3, "advance", x.advance());
        }
        end();
    }

    /** A limit outlasts the day, the NET does not: two payments on each of 20 days, one is settled and one returned. */
    void twentyDays() {
        begin();
        ask(true, "issue", x.issue(0, 0, 1000));
        ask(0, "limit", x.limit(0, 1, 50));
        for (int day = 0; day < 20; day++) {
            ask(1, "advance", x.advance());
            ask(2 * day, "pay", x.pay(0, 1, 50, 1));
            ask(2 * day + 1, "pay", x.pay(0, 1, 1, 1));
            for (int n = 0; n < 5; n++) {
                ask(1, "status of the first", x.status(2 * day));
                ask(0, "status of the second", x.status(2 * day + 1));
                ask(50, "net", x.net(0, 1));
            }
            ask(2, "advance", x.advance());
            ask(SHUT, "pay", x.pay(0, 1, 1, 1));
            ask(0, "resolve", x.resolve());
            ask(0, "advance", x.advance());
            ask(0, "net", x.net(0, 1));
            ask(3, "status of the second", x.status(2 * day + 1));
            ask(1000 - 50 * (day + 1), "position", x.position(0, 0, 0));
        }
        ask(1, "advance", x.advance());
        fill(CALLS - 2, FULL, "pay", y -> y.pay(1, 0, 1, 1));
        ask(1000, "position", x.position(1, 0, 0));
        ask(0, "position", x.position(0, 0, 0));
        end();
    }

    /** 13 rings of three, each found by RESOLVING alone. */
    void thirteenRings() {
        begin();
        ask(1, "advance", x.advance());
        for (int ring = 0; ring < 13; ring++) {
            int first = 3 * ring;
            ask(first, "pay", x.pay(0, 1, MOST, 2));
            ask(0, "resolve of one", x.resolve());
            ask(first + 1, "pay", x.pay(1, 2, MOST, 1));
            ask(0, "resolve of two", x.resolve());
            ask(first + 2, "pay", x.pay(2, 0, MOST, 0));
            for (int n = 0; n < 10; n++) {
                ask(first + 2, "waiting(0)", x.waiting(0));
                ask(first, "waiting(2)", x.waiting(2));
                ask(0, "behind(2)", x.behind(2));
            }
            ask(3, "resolve", x.resolve());
            ask(BAD, "waiting(0)", x.waiting(0));
            ask((long) (ring + 1) * MOST, "net", x.net(0, 1));
        }
        ask(39, "pay", x.pay(0, 1, MOST, 1));
        fill(CALLS - 2, FULL, "pay", y -> y.pay(1, 0, 1, 1));
        ask(-13L * MOST, "net", x.net(0, 2));
        ask(0, "status", x.status(39));
        end();
    }

    /** The numbers that a crash takes back are given again, twelve times up to 40. */
    void crashAfterCrash() {
        begin();
        ask(true, "issue", x.issue(0, 0, 100));
        ask(1, "advance", x.advance());
        ask(0, "pay", x.pay(0, 1, 60, 1));
        sync();
        for (int n = 0; n < 12; n++) {
            for (int i = 1; i < 40; i++) {
                ask(i, "pay", x.pay(0, 2 + n % 4, 1, 1));
            }
            ask(1, "position", x.position(0, 0, 0));
            crash();
        }
        ask(40, "position of the payer", x.position(0, 0, 0));
        ask(60, "position of the first payed", x.position(1, 0, 0));
        for (int q = 2; q < 6; q++) {
            ask(0, "position of another", x.position(q, 0, 0));
        }
        ask(BAD, "status", x.status(1));
        ask(1, "pay", x.pay(0, 1, 40, 1));
        ask(100, "net", x.net(0, 1));
        fill(CALLS - 1, 0, "position", y -> y.position(0, 0, 0));
        ask(1, "status", x.status(1));
        end();
    }

    /** What was made sure last counts, not what was made sure first or most often. */
    void syncAfterSync() {
        begin();
        for (int n = 1; n <= 126; n++) {
            ask(true, "issue", x.issue(3, 2, n));
            sync();
            ask(true, "issue", x.issue(3, 2, MOST));
            crash();
        }
        crash();
        ask(126 * 127 / 2, "position", x.position(3, 2, 0));
        ask(1, "advance", x.advance());
        crash();
        ask(true, "issue on the day that is CLOSED again", x.issue(3, 2, 1));
        sync();
        crash();
        ask(126 * 127 / 2 + 1, "position", x.position(3, 2, 0));
        end();
    }

    /** What never was made sure is as at first, however often and late it crashes. */
    void neverSure() {
        begin();
        for (int n = 0; n < 102; n++) {
            ask(true, "issue", x.issue(n % 6, n % 3, 7));
            ask(0, "limit", x.limit(n % 6, (n + 1) % 6, 0));
            ask(1, "advance", x.advance());
            ask(0, "pay", x.pay(n % 6, (n + 2) % 6, 8, 0));
            crash();
        }
        ask(1, "advance", x.advance());
        ask(BAD, "status", x.status(0));
        end();
    }

    /** The line at each step up and down again, cut to a whole number at each. */
    void pledgedOneByOne() {
        begin();
        ask(true, "terms", x.terms(1, 3, 67));
        ask(true, "issue", x.issue(4, 1, 127));
        for (int n = 1; n <= 127; n++) {
            ask(0, "pledge", x.pledge(4, 1, 1));
            ask(n * 99 / 100, "line", x.line(4));
        }
        ask(SHORT, "pledge", x.pledge(4, 1, 1));
        for (int n = 126; n >= 0; n--) {
            ask(0, "release", x.release(4, 1, 1));
            ask(n * 99 / 100, "line", x.line(4));
        }
        ask(SHORT, "release", x.release(4, 1, 1));
        end();
    }

    /** Each payment waits until the line is enough for it, and then nothing pledged can be had back. */
    void theLineBounds() {
        begin();
        ask(true, "issue", x.issue(0, 2, 300));
        ask(true, "terms", x.terms(2, 1, 0));
        ask(1, "advance", x.advance());
        for (int i = 0; i < 40; i++) {
            ask(i, "pay", x.pay(0, 1, 1, 1));
            ask(0, "status", x.status(i));
            ask(1, "pledge", x.pledge(0, 2, 1));
            ask(1, "status", x.status(i));
            fill(calls + 8, SHORT, "release", y -> y.release(0, 2, 1));
        }
        ask(-40, "position", x.position(0, 0, 0));
        ask(40, "line", x.line(0));
        ask(0, "pledge", x.pledge(0, 2, 2));
        ask(SHORT, "release", x.release(0, 2, 3));
        ask(0, "release", x.release(0, 2, 2));
        fill(CALLS - 2, SHORT, "release", y -> y.release(0, 2, 1));
        ask(260, "position", x.position(0, 2, 0));
        ask(40, "position", x.position(1, 0, 0));
        end();
    }

    /** All ten go from one priority to the next, one by one, five times round. */
    void preferRoundAndRound() {
        begin();
        ask(1, "advance", x.advance());
        for (int i = 0; i < 10; i++) {
            ask(i, "pay", x.pay(0, 1 + i % 5, 1 + i, 1));
        }
        for (int round = 0; round < 5; round++) {
            for (int i = 9; i >= 0; i--) {
                ask(0, "prefer to 0", x.prefer(i, 0));
                ask(i, "the first", x.waiting(0));
                ask(9, "behind(9)", x.behind(9));
            }
            for (int i = 0; i < 10; i++) {
                ask(0, "prefer to 2", x.prefer(i, 2));
                ask((i + 1) % 10, "the first", x.waiting(0));
                ask(i, "the last", x.waiting(9));
            }
            for (int i = 9; i >= 0; i--) {
                ask(0, "prefer to 1", x.prefer(i, 1));
                ask(i, "the first", x.waiting(0));
                ask((i + 9) % 10, "the last", x.waiting(9));
            }
        }
        fill(CALLS - 10, FULL, "pay", y -> y.pay(5, 0, 1, 0));
        for (int k = 0; k < 10; k++) {
            ask(k, "waiting(" + k + ")", x.waiting(k));
        }
        end();
    }

    /** The limit is as often too low by one as it is enough: 40 payments back and forth. */
    void limitUpAndDown() {
        begin();
        ask(true, "issue", x.issue(0, 0, MOST));
        ask(1, "advance", x.advance());
        for (int i = 0; i < 40; i += 2) {
            ask(0, "limit", x.limit(0, 1, 0));
            ask(i, "pay", x.pay(0, 1, MOST, 1));
            for (int n = 0; n < 7; n++) {
                ask(0, "limit", x.limit(0, 1, MOST - 1));
                ask(0, "status", x.status(i));
            }
            ask(1, "limit", x.limit(0, 1, enough(i)));
            ask(i + 1, "pay back", x.pay(1, 0, MOST, 1));
            ask(1, "status", x.status(i + 1));
            ask(0, "net", x.net(0, 1));
            ask(MOST, "position", x.position(0, 0, 0));
        }
        fill(CALLS - 1, FULL, "pay", y -> y.pay(0, 1, 1, 0));
        ask(0, "net", x.net(1, 0));
        end();
    }

    /** A limit that is enough: none, or the greatest. */
    private static int enough(int i) {
        return i % 4 == 0 ? -1 : MOST;
    }

    /** RESOLVING finds nothing for hundreds of calls, and then ten at once: money goes round one way, a security the other. */
    void resolvedAtLast() {
        begin();
        ask(1, "advance", x.advance());
        int[] payers = {0, 1, 2, 3, 5, 4};
        for (int i = 0; i < 5; i++) {
            ask(i, "pay", x.pay(payers[i], payers[i + 1], 100, i % 3));
        }
        for (int i = 5; i < 9; i++) {
            ask(i, "deliver", x.deliver(9 - i, 8 - i, 1, 7));
        }
        fill(CALLS - 12, 0, "resolve", GrossSettlement::resolve);
        ask(9, "exchange", x.exchange(0, 4, 1, 7, 101));
        ask(0, "resolve when 4 has too little money", x.resolve());
        ask(0, "cancel", x.cancel(9));
        ask(10, "exchange", x.exchange(0, 4, 1, 8, 100));
        ask(0, "resolve when 0 has too little to give", x.resolve());
        ask(0, "cancel", x.cancel(10));
        ask(11, "exchange", x.exchange(0, 4, 1, 7, 100));
        ask(0, "behind(9)", x.behind(9));
        ask(10, "resolve", x.resolve());
        ask(BAD, "waiting(0)", x.waiting(0));
        ask(0, "position", x.position(4, 0, 0));
        ask(100, "net", x.net(4, 0));
        end();
    }

    /** What is refused changes nothing, also when it is refused hundreds of times. */
    void refusedAgainAndAgain() {
        begin();
        ask(true, "issue", x.issue(0, 0, 10));
        ask(1, "advance", x.advance());
        for (int i = 0; i < 10; i++) {
            ask(i, "pay", x.pay(0, 1, 11, 1));
        }
        for (int n = 0; n < 70; n++) {
            ask(FULL, "pay", x.pay(0, 2, 10, 0));
            ask(FULL, "deliver", x.deliver(0, 2, 1, 1));
            ask(FULL, "exchange", x.exchange(2, 0, 1, 1, 10));
            ask(BAD, "cancel", x.cancel(10 + n));
            ask(BAD, "prefer", x.prefer(n % 10, 3 + n));
            ask(SHORT, "pledge", x.pledge(0, 1, 1 + n));
            ask(false, "issue", x.issue(0, 0, 1 + n));
        }
        ask(0, "cancel", x.cancel(0));
        ask(10, "pay", x.pay(0, 2, 10, 0));
        ask(1, "status", x.status(10));
        ask(1, "waiting(0)", x.waiting(0));
        ask(8, "behind(8)", x.behind(8));
        ask(0, "position", x.position(0, 0, 0));
        ask(10, "position", x.position(2, 0, 0));
        fill(CALLS, BAD, "waiting(9)", y -> y.waiting(9));
        end();
    }
}
