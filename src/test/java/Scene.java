/**
 * States that a test begins in. All but NEW have something held, pledged, limited, paid, waiting in
 * each priority, settled, cancelled, returned, and made sure otherwise than it is now: whatever a
 * refused call changed would show.
 */
enum Scene {
    NEW, CLOSED, OPEN, CUT, TEN, TEN_CUT, FORTY, FORTY_CUT, FORTY_CLOSED;

    static final Scene[] BUSY = {CLOSED, OPEN, CUT};
    static final Scene[] ALL = values();

    private Probes plain;

    GrossSettlement made() {
        GrossSettlement x = new GrossSettlement();
        set(x);
        return x;
    }

    /** What the probes see when no call is refused; found once, since it never changes. */
    Probes probes() {
        if (plain == null) {
            plain = Probes.of(this::set);
        }
        return plain;
    }

    void set(GrossSettlement x) {
        if (this == NEW) {
            return;
        }
        firstDay(x);
        if (this == CLOSED) {
            return;
        }
        secondDay(x);
        if (this == TEN || this == TEN_CUT) {
            fiveMoreWait(x);
        }
        if (this == FORTY || this == FORTY_CUT || this == FORTY_CLOSED) {
            payUpTo40(x);
        }
        if (this == CUT || this == TEN_CUT || this == FORTY_CUT || this == FORTY_CLOSED) {
            x.advance();
        }
        if (this == FORTY_CLOSED) {
            x.advance();
        }
    }

    /** Instructions 0 to 3: settled, settled, cancelled, returned. The line of 2 is 80, of 3 is 17. */
    private static void firstDay(GrossSettlement x) {
        x.issue(0, 0, 100);
        x.issue(1, 0, 50);
        x.issue(2, 1, 30);
        x.issue(3, 2, 40);
        x.issue(4, 0, 5);
        x.issue(5, 1, 10);
        x.terms(1, 10, 20);
        x.terms(2, 7, 50);
        x.pledge(2, 1, 10);
        x.pledge(3, 2, 5);
        x.limit(0, 1, 20);
        x.limit(4, 5, 1000000);
        x.limit(3, 2, 0);
        x.sync();
        x.advance();
        x.pay(0, 1, 20, 1);
        x.pay(2, 3, 60, 1);
        x.pay(5, 4, 9, 1);
        x.deliver(4, 5, 1, 3);
        x.cancel(2);
        x.advance();
        x.advance();
        x.issue(1, 0, 7);
        x.limit(2, 3, 20);
    }

    /** Instructions 4 to 10: 4 and 10 are settled, the others wait in the order 6, 9, 7, 8, 5. */
    private static void secondDay(GrossSettlement x) {
        x.advance();
        x.pay(0, 1, 15, 1);
        x.pay(0, 1, 10, 2);
        x.pay(5, 0, 3, 0);
        x.deliver(4, 3, 2, 6);
        x.exchange(5, 2, 1, 4, 1000);
        x.sync();
        x.pay(5, 1, 4, 0);
        x.pay(1, 2, 30, 1);
        x.limit(3, 4, 20);
        x.pledge(3, 2, 4);
    }

    private static void fiveMoreWait(GrossSettlement x) {
        x.pay(5, 1, 1, 0);
        x.pay(5, 2, 1, 1);
        x.pay(5, 3, 1, 2);
        x.deliver(4, 0, 2, 1);
        x.exchange(4, 0, 2, 1, 1);
    }

    private static void payUpTo40(GrossSettlement x) {
        for (int i = 11; i < 40; i++) {
            x.pay(0, 2, 1, 0);
        }
    }
}
