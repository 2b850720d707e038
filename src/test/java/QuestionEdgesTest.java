/** Promises 16 to 21, sentence by sentence: position, line, net, status, waiting and behind. */
public final class QuestionEdgesTest extends Edges {
    private static final int[] NO_WHICH = outside(0, 1);
    private static final int[] COUNTS = {0, 4, 11, 11, 16, 16, 40, 40, 40};
    private static final int[] WAITING = {0, 0, 5, 5, 10, 10, 5, 5, 0};

    public static void main(String[] args) throws Exception {
        run(new QuestionEdgesTest());
    }

    // Promise 16: position

    /** "What p holds of the asset (which 0) or has pledged of it (which 1)": each has its own */
    void positionOfEach() {
        for (int p = 0; p < 6; p++) {
            for (int asset = 0; asset < 3; asset++) {
                x.issue(p, asset, 100 + 10 * p + asset);
            }
            x.pledge(p, 1, 1 + p);
            x.pledge(p, 2, 11 + p);
        }
        for (int p = 0; p < 6; p++) {
            due(100 + 10 * p, "position(" + p + ", 0, 0)", x.position(p, 0, 0));
            due(100 + 9 * p, "position(" + p + ", 1, 0)", x.position(p, 1, 0));
            due(91 + 9 * p, "position(" + p + ", 2, 0)", x.position(p, 2, 0));
            due(1 + p, "position(" + p + ", 1, 1)", x.position(p, 1, 1));
            due(11 + p, "position(" + p + ", 2, 1)", x.position(p, 2, 1));
        }
    }

    /** "(which 1; of money 0)": also where money is held, or is below 0 */
    void positionOfMoneyPledged() {
        for (Scene scene : Scene.ALL) {
            x = scene.made();
            for (int p = 0; p < 6; p++) {
                due(0, scene + ", position(" + p + ", 0, 1)", x.position(p, 0, 1));
            }
        }
    }

    /** What is held of money may be below 0: then -1 is no BAD, and as -60 it changes nothing */
    void positionBelow0() {
        refused(Scene.CLOSED, -60, "position(2, 0, 0)", y -> y.position(2, 0, 0));
        refused(Scene.FORTY, -1, "position(2, 0, 0)", y -> y.position(2, 0, 0));
    }

    private void noPosition(Scene scene, int p, int asset, int which) {
        refused(scene, BAD, "position(" + p + ", " + asset + ", " + which + ")", y -> y.position(p, asset, which));
    }

    /** "BAD when p .. is none" */
    void positionBadParticipant() {
        for (Scene scene : Scene.BUSY) {
            for (int p : NO_PARTICIPANTS) {
                noPosition(scene, p, 0, 0);
                noPosition(scene, p, 1, 1);
                noPosition(scene, p, 0, 1);
            }
        }
    }

    /** "BAD when .. the asset is none" */
    void positionBadAsset() {
        for (Scene scene : Scene.BUSY) {
            for (int asset : NO_ASSETS) {
                noPosition(scene, 0, asset, 0);
                noPosition(scene, 2, asset, 1);
                noPosition(scene, 5, asset, 0);
            }
        }
    }

    /** "BAD when .. which is not 0 or 1": also of money */
    void positionBadWhich() {
        for (Scene scene : Scene.BUSY) {
            for (int which : NO_WHICH) {
                noPosition(scene, 0, 0, which);
                noPosition(scene, 2, 1, which);
                noPosition(scene, 5, 2, which);
            }
        }
    }

    /** The greatest that can be held within 512 calls, and the greatest that can be pledged */
    void positionIsALong() {
        for (int n = 0; n < 255; n++) {
            x.issue(5, 2, MOST);
            x.pledge(5, 2, MOST);
        }
        due(255L * MOST, "position(5, 2, 1)", x.position(5, 2, 1));
        due(0, "position(5, 2, 0)", x.position(5, 2, 0));
        x = new GrossSettlement();
        for (int n = 0; n < 510; n++) {
            x.issue(0, 0, MOST);
        }
        due(510L * MOST, "position(0, 0, 0)", x.position(0, 0, 0));
        due(0, "position(0, 0, 1)", x.position(0, 0, 1));
    }

    // Promise 17: line

    /** "The line of p": each has its own, and who has pledged nothing has none */
    void lineOfEach() {
        x.terms(1, 10, 0);
        x.terms(2, 1, 0);
        for (int p = 0; p < 5; p++) {
            x.issue(p, 1, 100);
            x.issue(p, 2, 100);
            x.pledge(p, 1, 1 + p);
            x.pledge(p, 2, 2 + p);
        }
        for (int p = 0; p < 5; p++) {
            due(12 + 11 * p, "line(" + p + ")", x.line(p));
        }
        due(0, "line(5)", x.line(5));
    }

    /** "BAD when it is no participant" */
    void lineBadParticipant() {
        for (Scene scene : Scene.BUSY) {
            for (int p : NO_PARTICIPANTS) {
                refused(scene, BAD, "line(" + p + ")", y -> y.line(p));
            }
        }
    }

    /** The greatest line within 512 calls */
    void lineIsALong() {
        x.terms(2, 1000, 0);
        for (int n = 0; n < 255; n++) {
            x.issue(5, 2, MOST);
            x.pledge(5, 2, MOST);
        }
        due(255000L * MOST, "line(5)", x.line(5));
    }

    // Promise 18: net

    /** "NET(p, q)": each two have their own, and it is -NET(q, p) */
    void netOfEach() {
        for (int p = 0; p < 6; p++) {
            x.issue(p, 0, 1000);
        }
        x.advance();
        for (int p = 0; p < 6; p++) {
            for (int q = 0; q < p; q++) {
                x.pay(p, q, 10 * p - q, 1);
            }
        }
        for (int p = 0; p < 6; p++) {
            for (int q = 0; q < p; q++) {
                due(10 * p - q, "net(" + p + ", " + q + ")", x.net(p, q));
                due(q - 10 * p, "net(" + q + ", " + p + ")", x.net(q, p));
            }
        }
    }

    /** "what p has paid q in money less what q has paid p": what waits, and what is given, is not paid */
    void netOfWhatIsPaid() {
        x.issue(0, 0, 10);
        x.issue(0, 1, 10);
        x.advance();
        x.deliver(0, 1, 1, 5);
        due(0, "net(0, 1)", x.net(0, 1));
        x.pay(0, 1, 11, 0);
        due(0, "net(0, 1)", x.net(0, 1));
        x.cancel(1);
        x.pay(0, 1, 10, 0);
        due(10, "net(0, 1)", x.net(0, 1));
        x.exchange(0, 1, 1, 1, 10);
        due(0, "net(0, 1)", x.net(0, 1));
        x.pay(0, 1, 3, 0);
        x.exchange(1, 0, 1, 1, 7);
        due(10, "net(0, 1)", x.net(0, 1));
        due(-10, "net(1, 0)", x.net(1, 0));
    }

    /** "0 when one of them is no participant" */
    void netOfNoParticipant() {
        for (Scene scene : Scene.BUSY) {
            for (int p : NO_PARTICIPANTS) {
                for (int q = 0; q < 6; q++) {
                    int other = q;
                    refused(scene, 0, "net(" + p + ", " + q + ")", y -> y.net(p, other));
                    refused(scene, 0, "net(" + q + ", " + p + ")", y -> y.net(other, p));
                }
                refused(scene, 0, "net(" + p + ", " + p + ")", y -> y.net(p, p));
            }
        }
    }

    /** "0 when .. both are the same" */
    void netOfTheSame() {
        for (Scene scene : Scene.ALL) {
            for (int p = 0; p < 6; p++) {
                due(0, scene + ", net(" + p + ", " + p + ")", scene.made().net(p, p));
            }
        }
    }

    /** The greatest NET: 40 payments of the greatest amount */
    void netOfAllForty() {
        for (int n = 0; n < 40; n++) {
            x.issue(4, 0, MOST);
        }
        x.advance();
        for (int n = 0; n < 40; n++) {
            x.pay(4, 5, MOST, 1);
        }
        due(40L * MOST, "net(4, 5)", x.net(4, 5));
        due(-40L * MOST, "net(5, 4)", x.net(5, 4));
        holds(5, 40L * MOST, 0, 0);
    }

    // Promise 19: status

    /** "0 it waits, 1 SETTLED, 2 CANCELLED, 3 RETURNED" */
    void statusOfEach() {
        int[] statuses = {1, 1, 2, 3, 1, 0, 0, 0, 0, 0, 1};
        x = Scene.OPEN.made();
        for (int i = 0; i < statuses.length; i++) {
            due(statuses[i], "status(" + i + ")", x.status(i));
        }
    }

    /** "BAD when there is none": the first number that is not given yet, and any that never is */
    void statusBadWhenThereIsNone() {
        for (Scene scene : Scene.ALL) {
            int count = COUNTS[scene.ordinal()];
            for (int i : outside(0, count - 1)) {
                refused(scene, BAD, "status(" + i + ")", y -> y.status(i));
            }
            due(BAD, scene + ", status(40)", scene.made().status(40));
            due(true, scene + ", the last one", count == 0 || scene.made().status(count - 1) >= 0);
        }
    }

    // Promise 20: waiting

    /** "The number of the k-th instruction (from 0) in the order of those that wait" */
    void waitingOfEach() {
        x = Scene.TEN.made();
        int[] order = {6, 9, 11, 7, 8, 12, 14, 15, 5, 13};
        for (int k = 0; k < 10; k++) {
            due(order[k], "waiting(" + k + ")", x.waiting(k));
        }
    }

    /** "BAD when there is none" */
    void waitingBadWhenThereIsNone() {
        for (Scene scene : Scene.ALL) {
            int waiting = WAITING[scene.ordinal()];
            for (int k : outside(0, waiting - 1)) {
                refused(scene, BAD, "waiting(" + k + ")", y -> y.waiting(k));
            }
            due(BAD, scene + ", waiting(10)", scene.made().waiting(10));
            due(true, scene + ", the last one", waiting == 0 || scene.made().waiting(waiting - 1) >= 0);
        }
    }

    /** Where some have left, no place remembers them. */
    void waitingWhenOneLeaves() {
        x = Scene.TEN.made();
        int[] order = {6, 9, 11, 7, 8, 12, 14, 15, 5, 13};
        for (int left = 9; left >= 0; left--) {
            x.cancel(order[left]);
            due(BAD, "waiting(" + left + ")", x.waiting(left));
            due(BAD, "behind(" + left + ")", x.behind(left));
            due(true, "waiting(" + (left - 1) + ")", left == 0 || x.waiting(left - 1) == order[left - 1]);
        }
    }

    // Promise 21: behind

    /** "How many instructions that wait the one that is k-th in the order is behind": from 0 to all nine */
    void behindOfEach() {
        x = Scene.TEN.made();
        behinds(0, 1, 2, 0, 0, 3, 1, 2, 1, 4);
        x = new GrossSettlement();
        x.advance();
        for (int i = 0; i < 10; i++) {
            x.pay(0, 1 + i % 5, 1, 1);
        }
        behinds(0, 1, 2, 3, 4, 5, 6, 7, 8, 9);
    }

    /** "BAD when there is none" */
    void behindBadWhenThereIsNone() {
        for (Scene scene : Scene.ALL) {
            int waiting = WAITING[scene.ordinal()];
            for (int k : outside(0, waiting - 1)) {
                refused(scene, BAD, "behind(" + k + ")", y -> y.behind(k));
            }
            due(BAD, scene + ", behind(10)", scene.made().behind(10));
            due(true, scene + ", the last one", waiting == 0 || scene.made().behind(waiting - 1) >= 0);
        }
    }

    /** One that has left is none "that wait". */
    void behindWhenOneLeaves() {
        x.issue(0, 0, 1);
        x.advance();
        x.pay(0, 1, 5, 0);
        x.pay(0, 2, 6, 1);
        x.pay(0, 3, 7, 2);
        behinds(0, 1, 2);
        x.cancel(1);
        behinds(0, 1);
        x.prefer(2, 0);
        behinds(0, 1);
        x.pay(0, 4, 1, 0);
        behinds(0, 1, 2);
        due(1, "it settles before the last", x.prefer(0, 1) + x.prefer(2, 1));
        behinds(0, 1);
    }
}
