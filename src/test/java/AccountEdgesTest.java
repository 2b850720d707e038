/** Promises 1 to 6, sentence by sentence: a new object, issue, terms, pledge, release and limit. */
public final class AccountEdgesTest extends Edges {
    private static final Scene[] NOT_CLOSED = {Scene.OPEN, Scene.CUT, Scene.TEN, Scene.TEN_CUT, Scene.FORTY, Scene.FORTY_CUT};
    private static final int[] NO_PRICES = outside(0, 1000);
    private static final int[] NO_HAIRCUTS = outside(0, 100);
    private static final int[] NO_LIMITS = outside(-1, MOST);

    public static void main(String[] args) throws Exception {
        run(new AccountEdgesTest());
    }

    // Promise 1: a new object

    /** "nothing held" */
    void newNothingHeld() {
        for (int p = 0; p < 6; p++) {
            holds(p, 0, 0, 0);
        }
        due(SHORT, "pledge(0, 1, 1)", x.pledge(0, 1, 1));
        x.advance();
        x.pay(0, 1, 1, 1);
        x.deliver(0, 1, 2, 1);
        order(0, 1);
    }

    /** "nothing .. pledged" */
    void newNothingPledged() {
        for (int p = 0; p < 6; p++) {
            for (int asset = 0; asset < 3; asset++) {
                due(0, "position(" + p + ", " + asset + ", 1)", x.position(p, asset, 1));
            }
            due(SHORT, "release(" + p + ", 1, 1)", x.release(p, 1, 1));
            due(SHORT, "release(" + p + ", 2, 1)", x.release(p, 2, 1));
            due(0, "line(" + p + ")", x.line(p));
        }
    }

    /** "nothing .. limited": more than the greatest limit can be paid to each one */
    void newNothingLimited() {
        for (int p = 0; p < 6; p++) {
            for (int n = 0; n < 6; n++) {
                x.issue(p, 0, MOST);
            }
        }
        x.advance();
        for (int p = 0; p < 6; p += 5) {
            for (int q = 0; q < 6; q++) {
                if (p != q) {
                    x.pay(p, q, MOST, 1);
                    x.pay(p, q, 1, 1);
                }
            }
        }
        statuses(0, 19, 1);
    }

    /** "nothing .. accepted" */
    void newNothingAccepted() {
        statuses(0, 40, BAD);
        order();
        due(BAD, "behind(0)", x.behind(0));
        due(BAD, "cancel(0)", x.cancel(0));
        due(BAD, "prefer(0, 1)", x.prefer(0, 1));
        due(0, "resolve()", x.resolve());
        x.advance();
        due(0, "the first number", x.pay(0, 1, 1, 1));
    }

    /** "THE DAY is CLOSED (0, at first)", "NET .. since the day was opened" */
    void newDayAndNets() {
        for (int p = 0; p < 6; p++) {
            for (int q = 0; q < 6; q++) {
                due(0, "net(" + p + ", " + q + ")", x.net(p, q));
            }
        }
        due(true, "issue needs CLOSED", x.issue(0, 0, 1));
        due(1, "advance()", x.advance());
    }

    /** Two objects have nothing in common. */
    void newObjectsAreApart() {
        GrossSettlement other = new GrossSettlement();
        other.issue(0, 0, 9);
        other.sync();
        other.advance();
        other.pay(0, 1, 5, 1);
        other.pay(0, 1, 5, 1);
        x.crash();
        holds(0, 0, 0, 0);
        order();
        due(1, "advance()", x.advance());
        due(BAD, "status(0)", x.status(0));
        due(5, "net of the other object", other.net(0, 1));
    }

    // Promise 2: issue

    /** "Participant p holds the amount more of the asset", amount 1 .. 1000000 */
    void issueAtTheEndsOfEachRange() {
        due(true, "issue(0, 0, 1)", x.issue(0, 0, 1));
        holds(0, 1, 0, 0);
        due(true, "issue(0, 0, MOST)", x.issue(0, 0, MOST));
        holds(0, MOST + 1, 0, 0);
        due(true, "issue(5, 2, MOST)", x.issue(5, 2, MOST));
        due(true, "issue(5, 2, 1)", x.issue(5, 2, 1));
        holds(5, 0, 0, MOST + 1);
        due(true, "issue(5, 1, 1)", x.issue(5, 1, 1));
        holds(5, 0, 1, MOST + 1);
        holds(4, 0, 0, 0);
        due(0, "nothing is pledged", x.position(5, 2, 1));
    }

    /** "false when p .. is not as said" */
    void issueRefusesNoParticipant() {
        for (Scene scene : Scene.BUSY) {
            for (int p : NO_PARTICIPANTS) {
                noIssue(scene, p, 0, 1);
            }
        }
    }

    /** "false when .. the asset .. is not as said" */
    void issueRefusesNoAsset() {
        for (Scene scene : Scene.BUSY) {
            for (int asset : NO_ASSETS) {
                noIssue(scene, 0, asset, 1);
                noIssue(scene, 5, asset, 1);
            }
        }
    }

    /** "false when .. the amount (1 .. 1000000) is not as said" */
    void issueRefusesNoAmount() {
        for (Scene scene : Scene.BUSY) {
            for (int amount : NO_AMOUNTS) {
                noIssue(scene, 0, 0, amount);
                noIssue(scene, 5, 2, amount);
            }
        }
    }

    /** "false when .. the day is not CLOSED" */
    void issueRefusedWhenNotClosed() {
        for (Scene scene : NOT_CLOSED) {
            noIssue(scene, 0, 0, 1);
            noIssue(scene, 5, 2, MOST);
        }
        due(true, "closed, with 40 instructions", Scene.FORTY_CLOSED.made().issue(0, 0, 1));
    }

    // Promise 3: terms

    /** "The security has this price and haircut", PRICE 0 .. 1000 */
    void termsAtTheEndsOfThePrices() {
        for (int security = 1; security < 3; security++) {
            x.issue(security, security, 3);
            x.pledge(security, security, 3);
            for (int price : new int[] {1000, 999, 1, 0, 1000}) {
                due(true, "terms(" + security + ", " + price + ", 0)", x.terms(security, price, 0));
                due(3L * price, "line(" + security + ")", x.line(security));
            }
        }
        due(3000, "line(1), when security 2 has changed", x.line(1));
    }

    /** "The security has this price and haircut", HAIRCUT 0 .. 100 */
    void termsAtTheEndsOfTheHaircuts() {
        for (int security = 1; security < 3; security++) {
            x.issue(security, security, 10);
            x.pledge(security, security, 10);
            for (int haircut : new int[] {0, 1, 99, 100, 50}) {
                due(true, "terms(" + security + ", 10, " + haircut + ")", x.terms(security, 10, haircut));
                due(100 - haircut, "line(" + security + ")", x.line(security));
            }
        }
        due(50, "line(1), when security 2 has changed", x.line(1));
    }

    /** "false when it .. is not as said": money has no price */
    void termsRefusesNoSecurity() {
        for (Scene scene : Scene.BUSY) {
            for (int security : NO_SECURITIES) {
                noTerms(scene, security, 1000, 0);
            }
        }
    }

    /** "false when .. price .. is not as said" */
    void termsRefusesNoPrice() {
        for (Scene scene : Scene.BUSY) {
            for (int price : NO_PRICES) {
                noTerms(scene, 1, price, 0);
                noTerms(scene, 2, price, 100);
            }
        }
    }

    /** "false when .. haircut is not as said" */
    void termsRefusesNoHaircut() {
        for (Scene scene : Scene.BUSY) {
            for (int haircut : NO_HAIRCUTS) {
                noTerms(scene, 1, 1000, haircut);
                noTerms(scene, 2, 0, haircut);
            }
        }
    }

    /** "false when .. the day is not CLOSED" */
    void termsRefusedWhenNotClosed() {
        for (Scene scene : NOT_CLOSED) {
            noTerms(scene, 1, 1000, 0);
            noTerms(scene, 2, 7, 50);
        }
        due(true, "closed, with 40 instructions", Scene.FORTY_CLOSED.made().terms(2, 1000, 0));
    }

    /** "false when .. a position would be below its floor then": 2 has -60 of money and 10 of security 1 pledged */
    void termsRefusedBelowTheFloor() {
        noTerms(Scene.CLOSED, 1, 10, 41);
        noTerms(Scene.CLOSED, 1, 7, 15);
        noTerms(Scene.CLOSED, 1, 0, 0);
        noTerms(Scene.CLOSED, 1, 1000, 100);
        noTerms(Scene.CLOSED, 1, 599, 99);
        int[][] justTheFloor = {{10, 40}, {6, 0}, {600, 99}, {8, 25}, {7, 14}};
        for (int[] it : justTheFloor) {
            x = Scene.CLOSED.made();
            due(true, "terms(1, " + it[0] + ", " + it[1] + ")", x.terms(1, it[0], it[1]));
            due(60, "line(2)", x.line(2));
        }
        x = Scene.CLOSED.made();
        due(true, "nobody needs security 2", x.terms(2, 0, 100));
    }

    /** The position below its floor may be that of each participant. */
    void termsLooksAtEachParticipant() {
        for (int p = 0; p < 6; p++) {
            x = new GrossSettlement();
            int security = 1 + p % 2;
            x.issue(p, security, 7);
            x.terms(security, 3, 0);
            x.pledge(p, security, 7);
            x.advance();
            x.pay(p, (p + 1) % 6, 21, 1);
            x.advance();
            x.advance();
            due(-21, "money of " + p, x.position(p, 0, 0));
            due(false, "terms(" + security + ", 3, 1)", x.terms(security, 3, 1));
            due(false, "terms(" + security + ", 2, 0)", x.terms(security, 2, 0));
            due(21, "line(" + p + ")", x.line(p));
            due(true, "the other security", x.terms(3 - security, 0, 100));
            due(true, "terms(" + security + ", 3, 0)", x.terms(security, 3, 0));
        }
    }

    /** The line is that over both securities, and may fall in one while the other keeps it up. */
    void termsLooksAtBothSecurities() {
        x.issue(3, 1, 10);
        x.issue(3, 2, 10);
        x.terms(1, 5, 0);
        x.terms(2, 5, 0);
        x.pledge(3, 1, 10);
        x.pledge(3, 2, 10);
        x.advance();
        x.pay(3, 0, 50, 1);
        x.advance();
        x.advance();
        due(true, "terms(1, 0, 0)", x.terms(1, 0, 0));
        due(false, "terms(2, 5, 1)", x.terms(2, 5, 1));
        due(50, "line(3)", x.line(3));
        due(true, "terms(1, 1, 50)", x.terms(1, 1, 50));
        due(true, "terms(2, 5, 10)", x.terms(2, 5, 10));
        due(50, "line(3)", x.line(3));
    }

    // Promise 4: pledge

    /** "pledges the amount (1 .. 1000000) of the security, which it does not hold any more" */
    void pledgeAtTheEndsOfEachRange() {
        x.issue(0, 1, MOST);
        x.issue(0, 1, 1);
        x.issue(5, 2, MOST);
        due(0, "pledge(0, 1, 1)", x.pledge(0, 1, 1));
        holds(0, 0, MOST, 0);
        due(1, "pledged", x.position(0, 1, 1));
        due(0, "pledge(0, 1, MOST)", x.pledge(0, 1, MOST));
        holds(0, 0, 0, 0);
        due(MOST + 1, "pledged", x.position(0, 1, 1));
        due(0, "pledge(5, 2, MOST)", x.pledge(5, 2, MOST));
        holds(5, 0, 0, 0);
        due(MOST, "pledged", x.position(5, 2, 1));
        due(0, "the other security", x.position(5, 1, 1));
    }

    /** "BAD when p .. is not as said" */
    void pledgeBadParticipant() {
        for (Scene scene : Scene.BUSY) {
            for (int p : NO_PARTICIPANTS) {
                noPledge(scene, BAD, p, 1, 1);
                noPledge(scene, BAD, p, 2, MOST);
            }
        }
    }

    /** "BAD when .. the security .. is not as said": 0 and 1 hold money, which can't be pledged */
    void pledgeBadSecurity() {
        for (Scene scene : Scene.BUSY) {
            for (int security : NO_SECURITIES) {
                noPledge(scene, BAD, 0, security, 1);
                noPledge(scene, BAD, 1, security, 1);
                noPledge(scene, BAD, 5, security, 1);
            }
        }
    }

    /** "BAD when .. the amount is not as said"; "else SHORT": BAD also where nothing is held */
    void pledgeBadAmount() {
        for (Scene scene : Scene.BUSY) {
            for (int amount : NO_AMOUNTS) {
                noPledge(scene, BAD, 2, 1, amount);
                noPledge(scene, BAD, 0, 2, amount);
            }
        }
    }

    /** BAD, and not SHORT, even where the amount that is too great is held */
    void pledgeBadThoughHeld() {
        x.issue(0, 1, MOST);
        x.issue(0, 1, MOST);
        due(BAD, "pledge(0, 1, MOST + 1)", x.pledge(0, 1, MOST + 1));
        holds(0, 0, 2 * MOST, 0);
    }

    /** "else SHORT when it does not hold so much": 2 holds 20, 3 holds 35 or 31, 5 holds 10, what is pledged apart */
    void pledgeShort() {
        noPledge(Scene.CLOSED, SHORT, 3, 2, 36);
        noPledge(Scene.OPEN, SHORT, 3, 2, 32);
        noPledge(Scene.CUT, SHORT, 3, 2, 32);
        for (Scene scene : Scene.BUSY) {
            noPledge(scene, SHORT, 2, 1, 21);
            noPledge(scene, SHORT, 2, 1, MOST);
            noPledge(scene, SHORT, 2, 2, 1);
            noPledge(scene, SHORT, 3, 1, 1);
            noPledge(scene, SHORT, 5, 1, 11);
            noPledge(scene, SHORT, 0, 1, 1);
        }
        noPledge(Scene.NEW, SHORT, 0, 1, 1);
    }

    /** "whatever the day is": just so much as is held */
    void pledgeOnEachDay() {
        for (Scene scene : Scene.ALL) {
            if (scene != Scene.NEW) {
                x = scene.made();
                due(0, scene + ", pledge(2, 1, 20)", x.pledge(2, 1, 20));
                due(0, "held", x.position(2, 1, 0));
                due(30, "pledged", x.position(2, 1, 1));
                due(240, "line(2)", x.line(2));
                due(SHORT, "pledge(2, 1, 1)", x.pledge(2, 1, 1));
            }
        }
    }

    /** "then GOING THROUGH .. Answers how many were settled" */
    void pledgeAnswersHowManyWereSettled() {
        x.issue(0, 1, 30);
        x.terms(1, 1, 0);
        x.advance();
        for (int i = 0; i < 10; i++) {
            x.pay(0, 1, 3, 1);
        }
        due(0, "2 is too little", x.pledge(0, 1, 2));
        due(1, "3 is enough for one", x.pledge(0, 1, 1));
        due(2, "9 for two more", x.pledge(0, 1, 6));
        x.advance();
        due(7, "30 for the rest, and the day is cut", x.pledge(0, 1, 21));
        order();
        holds(0, -30, 0, 0);
    }

    void pledgeSettlesTen() {
        x.issue(5, 2, 10);
        x.terms(2, 1, 0);
        x.advance();
        for (int i = 0; i < 10; i++) {
            x.pay(5, 1, 1, i % 3);
        }
        due(10, "pledge(5, 2, 10)", x.pledge(5, 2, 10));
        statuses(0, 9, 1);
        order();
    }

    // Promise 5: release

    /** "has the amount (1 .. 1000000) of the security pledged no more and holds it again" */
    void releaseAtTheEndsOfEachRange() {
        x.issue(0, 1, MOST);
        x.issue(0, 1, 1);
        x.issue(5, 2, MOST);
        x.pledge(0, 1, MOST);
        x.pledge(0, 1, 1);
        x.pledge(5, 2, MOST);
        due(0, "release(0, 1, MOST)", x.release(0, 1, MOST));
        holds(0, 0, MOST, 0);
        due(1, "pledged", x.position(0, 1, 1));
        due(0, "release(0, 1, 1)", x.release(0, 1, 1));
        holds(0, 0, MOST + 1, 0);
        due(0, "pledged", x.position(0, 1, 1));
        due(0, "release(5, 2, 1)", x.release(5, 2, 1));
        holds(5, 0, 0, 1);
        due(MOST - 1, "pledged", x.position(5, 2, 1));
    }

    /** "BAD when p .. is not as said" */
    void releaseBadParticipant() {
        for (Scene scene : Scene.BUSY) {
            for (int p : NO_PARTICIPANTS) {
                noRelease(scene, BAD, p, 1, 1);
                noRelease(scene, BAD, p, 2, MOST);
            }
        }
    }

    /** "BAD when .. the security .. is not as said" */
    void releaseBadSecurity() {
        for (Scene scene : Scene.BUSY) {
            for (int security : NO_SECURITIES) {
                noRelease(scene, BAD, 2, security, 1);
                noRelease(scene, BAD, 3, security, 1);
                noRelease(scene, BAD, 0, security, 1);
            }
        }
    }

    /** "BAD when .. the amount is not as said"; "else SHORT": BAD also where nothing is pledged */
    void releaseBadAmount() {
        for (Scene scene : Scene.BUSY) {
            for (int amount : NO_AMOUNTS) {
                noRelease(scene, BAD, 3, 2, amount);
                noRelease(scene, BAD, 0, 1, amount);
            }
        }
    }

    /** BAD, and not SHORT, even where the amount that is too great is pledged */
    void releaseBadThoughPledged() {
        for (int n = 0; n < 2; n++) {
            x.issue(0, 1, MOST);
            x.pledge(0, 1, MOST);
        }
        due(BAD, "release(0, 1, MOST + 1)", x.release(0, 1, MOST + 1));
        due(2 * MOST, "pledged", x.position(0, 1, 1));
    }

    /** "else SHORT when it has not pledged so much": 3 has pledged 5 or 9, and holds more */
    void releaseShortOfPledged() {
        noRelease(Scene.CLOSED, SHORT, 3, 2, 6);
        noRelease(Scene.OPEN, SHORT, 3, 2, 10);
        noRelease(Scene.CUT, SHORT, 3, 2, 10);
        for (Scene scene : Scene.BUSY) {
            noRelease(scene, SHORT, 3, 2, MOST);
            noRelease(scene, SHORT, 3, 1, 1);
            noRelease(scene, SHORT, 5, 1, 1);
            noRelease(scene, SHORT, 2, 1, 11);
        }
        noRelease(Scene.NEW, SHORT, 0, 1, 1);
    }

    /**
     * "else SHORT .. when what it holds of money would be below minus its line then": 2 has 10 of
     * security 1 pledged, for 8 each, and -60 of money, later -30, or -1 with 40 instructions
     */
    void releaseShortOfTheLine() {
        int[] most = {0, 2, 6, 6, 6, 6, 9, 9, 9};
        for (Scene scene : Scene.ALL) {
            int amount = most[scene.ordinal()];
            if (scene != Scene.NEW) {
                noRelease(scene, SHORT, 2, 1, amount + 1);
                noRelease(scene, SHORT, 2, 1, 10);
                due(0, scene + ", release(2, 1, " + amount + ")", scene.made().release(2, 1, amount));
            }
        }
    }

    /** Just the floor, and one below it; each part of the line is cut to a whole number. */
    void releaseJustToTheFloor() {
        for (int p = 0; p < 6; p++) {
            x = new GrossSettlement();
            x.issue(p, 1, 4);
            x.issue(p, 2, 9);
            x.terms(1, 3, 50);
            x.terms(2, 1, 0);
            x.pledge(p, 1, 4);
            x.pledge(p, 2, 9);
            x.advance();
            x.pay(p, (p + 5) % 6, 10, 1);
            due(15, "line(" + p + ")", x.line(p));
            due(SHORT, "release(p, 2, 6)", x.release(p, 2, 6));
            due(0, "release(p, 2, 4)", x.release(p, 2, 4));
            due(SHORT, "4 of 5 and 3.. of 1", x.release(p, 1, 1));
            due(4, "pledged", x.position(p, 1, 1));
            due(0, "release(p, 2, 1)", x.release(p, 2, 1));
            due(10, "line(" + p + ")", x.line(p));
            due(SHORT, "release(p, 2, 1)", x.release(p, 2, 1));
            due(-10, "money", x.position(p, 0, 0));
        }
    }

    /** "whatever the day is": just so much as is pledged */
    void releaseOnEachDay() {
        int[] pledged = {0, 5, 9, 9, 9, 9, 9, 9, 9};
        for (Scene scene : Scene.ALL) {
            if (scene != Scene.NEW) {
                x = scene.made();
                due(0, scene + ", release(3, 2, all)", x.release(3, 2, pledged[scene.ordinal()]));
                due(40, "held", x.position(3, 2, 0));
                due(0, "pledged", x.position(3, 2, 1));
                due(0, "line(3)", x.line(3));
                due(SHORT, "release(3, 2, 1)", x.release(3, 2, 1));
            }
        }
    }

    /** "then GOING THROUGH. Answers how many were settled" */
    void releaseAnswersHowManyWereSettled() {
        x.issue(0, 1, 10);
        x.pledge(0, 1, 10);
        x.advance();
        for (int i = 0; i < 10; i++) {
            x.deliver(0, 1 + i % 5, 1, 1);
        }
        x.sync();
        due(1, "release(0, 1, 1)", x.release(0, 1, 1));
        due(2, "release(0, 1, 2)", x.release(0, 1, 2));
        order(3, 4, 5, 6, 7, 8, 9);
        x.crash();
        x.advance();
        due(10, "all, and the day is cut", x.release(0, 1, 10));
        statuses(0, 9, 1);
        holds(1, 0, 2, 0);
    }

    // Promise 6: limit

    /** "LIMIT(p, q) is the amount (0 .. 1000000)" */
    void limitAtTheEndsOfTheAmounts() {
        x.issue(0, 0, MOST);
        x.issue(0, 0, MOST);
        due(0, "limit(0, 5, 0)", x.limit(0, 5, 0));
        x.advance();
        x.pay(0, 5, 1, 1);
        order(0);
        due(1, "limit(0, 5, 1)", x.limit(0, 5, 1));
        x.pay(0, 5, MOST, 1);
        due(0, "limit(0, 5, MOST)", x.limit(0, 5, MOST));
        order(1);
        x.cancel(1);
        x.pay(0, 5, MOST - 1, 1);
        order();
        due(MOST, "net(0, 5)", x.net(0, 5));
        x.pay(0, 5, 1, 1);
        order(3);
        due(0, "limit(5, 0, MOST)", x.limit(5, 0, MOST));
    }

    /** "or there is none if the amount is -1": also where there is none, and where NET is the greatest limit */
    void limitNone() {
        x.issue(0, 0, MOST);
        x.issue(0, 0, 5);
        due(0, "limit(0, 1, -1)", x.limit(0, 1, -1));
        x.limit(0, 1, MOST);
        x.advance();
        x.pay(0, 1, MOST, 1);
        x.pay(0, 1, 5, 1);
        order(1);
        due(1, "limit(0, 1, -1)", x.limit(0, 1, -1));
        due(MOST + 5, "net(0, 1)", x.net(0, 1));
        due(0, "limit(0, 1, -1)", x.limit(0, 1, -1));
    }

    /** "BAD when p or q is no participant" */
    void limitBadParticipant() {
        for (Scene scene : Scene.BUSY) {
            for (int p : NO_PARTICIPANTS) {
                noLimit(scene, BAD, p, 1, 20);
                noLimit(scene, BAD, 0, p, 20);
                noLimit(scene, BAD, p, p, -1);
            }
        }
    }

    /** "BAD when .. p is q" */
    void limitBadWhenTheSame() {
        for (Scene scene : Scene.BUSY) {
            for (int p = 0; p < 6; p++) {
                noLimit(scene, BAD, p, p, 20);
                noLimit(scene, BAD, p, p, -1);
            }
        }
    }

    /** "BAD when .. the amount is not as said"; "else SHORT": NET(0, 1) is 15 when OPEN or CUT */
    void limitBadAmount() {
        for (Scene scene : Scene.BUSY) {
            for (int amount : NO_LIMITS) {
                noLimit(scene, BAD, 0, 1, amount);
                noLimit(scene, BAD, 5, 4, amount);
            }
        }
    }

    /** "else SHORT when NET(p, q) is greater than the amount": NET(0, 1) is 15, NET(1, 2) is 30 */
    void limitShort() {
        for (Scene scene : new Scene[] {Scene.OPEN, Scene.CUT, Scene.TEN, Scene.FORTY}) {
            noLimit(scene, SHORT, 0, 1, 14);
            noLimit(scene, SHORT, 0, 1, 0);
            noLimit(scene, SHORT, 1, 2, 29);
            noLimit(scene, SHORT, 1, 2, 0);
            due(0, scene + ", limit(0, 1, 15)", scene.made().limit(0, 1, 15));
            due(0, scene + ", limit(1, 2, 30)", scene.made().limit(1, 2, 30));
        }
    }

    /** ".. and this is not -1" */
    void limitNoneIsNotShort() {
        due(1, "NET is 15, and the limit held one back", Scene.OPEN.made().limit(0, 1, -1));
        due(0, "NET is 30", Scene.OPEN.made().limit(1, 2, -1));
        x.issue(0, 0, 1);
        x.advance();
        x.pay(0, 1, 1, 1);
        due(SHORT, "NET is 1", x.limit(0, 1, 0));
        due(0, "NET is 1", x.limit(0, 1, -1));
        due(0, "NET is 1", x.limit(0, 1, 1));
    }

    /** NET is not greater when it is 0 or less: the limit may be 0 */
    void limitOfTheOneWhoWasPaid() {
        due(0, "NET(1, 0) is -15", Scene.OPEN.made().limit(1, 0, 0));
        due(0, "NET(2, 1) is -30", Scene.CUT.made().limit(2, 1, 0));
        due(0, "NET(4, 3) is 0", Scene.OPEN.made().limit(4, 3, 0));
        due(0, "NET is 0 when the day is closed", Scene.CLOSED.made().limit(0, 1, 0));
    }

    /** "then GOING THROUGH. Answers how many were settled", whatever the day is */
    void limitAnswersHowManyWereSettled() {
        x.issue(0, 0, 100);
        x.limit(0, 1, 0);
        x.advance();
        for (int i = 0; i < 10; i++) {
            x.pay(0, 1 + i % 2, 2, 1);
        }
        x.sync();
        due(0, "too little by one", x.limit(0, 1, 1));
        due(2, "one and what was behind it", x.limit(0, 1, 2));
        due(2, "two more", x.limit(0, 1, 5));
        x.crash();
        x.advance();
        due(10, "all, and the day is cut", x.limit(0, 1, 10));
        due(10, "net(0, 1)", x.net(0, 1));
    }

    /** A limit that falls settles nothing and holds from then on; that of q to p is another one. */
    void limitFallsAndIsOneWay() {
        x.issue(0, 0, 100);
        x.issue(1, 0, 100);
        x.limit(0, 1, 50);
        x.advance();
        x.pay(0, 1, 10, 1);
        due(0, "limit(0, 1, 10)", x.limit(0, 1, 10));
        x.pay(0, 1, 1, 1);
        order(1);
        due(0, "limit(1, 0, 20) is no limit of 0", x.limit(1, 0, 20));
        order(1);
        x.pay(1, 0, 31, 0);
        order(2, 1);
        due(2, "31 are paid back, which gives room for 1", x.limit(1, 0, 21));
        due(-20, "net(0, 1)", x.net(0, 1));
    }
}
