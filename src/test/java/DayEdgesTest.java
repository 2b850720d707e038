/** Promises 13 to 15, sentence by sentence: advance, sync and crash. */
public final class DayEdgesTest extends Edges {
    public static void main(String[] args) throws Exception {
        run(new DayEdgesTest());
    }

    // Promise 13: advance

    /** "from CLOSED to OPEN, from OPEN to CUT, from CUT to CLOSED .. Answers what it is then" */
    void advanceGoesRound() {
        for (int n = 0; n < 50; n++) {
            due(1, "advance()", x.advance());
            due(2, "advance()", x.advance());
            due(0, "advance()", x.advance());
        }
    }

    /** "THE DAY is CLOSED .., OPEN (1) or CUT (2: no instruction is accepted any more)": what each day lets pass */
    void eachDayIsItself() {
        for (int round = 0; round < 3; round++) {
            due(true, "closed, issue", x.issue(0, 0, 1));
            due(true, "closed, terms", x.terms(1, 1, 1));
            due(SHUT, "closed, pay", x.pay(0, 1, 1, 1));
            x.advance();
            due(false, "open, issue", x.issue(0, 0, 1));
            due(false, "open, terms", x.terms(1, 1, 1));
            due(round, "open, pay", x.pay(0, 1, 1, 1));
            x.advance();
            due(false, "cut, issue", x.issue(0, 0, 1));
            due(false, "cut, terms", x.terms(1, 1, 1));
            due(SHUT, "cut, pay", x.pay(0, 1, 1, 1));
            x.advance();
        }
        holds(1, 3, 0, 0);
    }

    /** "when it becomes CLOSED, all instructions that wait are RETURNED": ten of them, and no other */
    void advanceReturnsAllThatWait() {
        x = Scene.TEN_CUT.made();
        due(0, "advance()", x.advance());
        order();
        int[] statuses = {1, 1, 2, 3, 1, 3, 3, 3, 3, 3, 1, 3, 3, 3, 3, 3};
        for (int i = 0; i < statuses.length; i++) {
            due(statuses[i], "status(" + i + ")", x.status(i));
        }
        statuses(16, 40, BAD);
        due(BAD, "behind(0)", x.behind(0));
    }

    /** What is returned moves nothing, waits no more, and is never settled again. */
    void returnedIsNeverSettled() {
        x.advance();
        x.pay(0, 1, 5, 1);
        x.pay(1, 0, 5, 1);
        x.deliver(2, 3, 1, 5);
        x.advance();
        x.advance();
        x.issue(0, 0, 5);
        x.issue(2, 1, 5);
        x.advance();
        due(0, "resolve()", x.resolve());
        due(0, "limit(0, 1, -1)", x.limit(0, 1, -1));
        due(3, "nothing is before it", x.pay(0, 4, 5, 2));
        statuses(0, 2, 3);
        statuses(3, 3, 1);
        holds(2, 0, 5, 0);
    }

    /** From CLOSED to OPEN and from OPEN to CUT none is returned. */
    void advanceReturnsNoneBefore() {
        x = Scene.TEN.made();
        due(2, "advance()", x.advance());
        order(6, 9, 11, 7, 8, 12, 14, 15, 5, 13);
        behinds(0, 1, 2, 0, 0, 3, 1, 2, 1, 4);
    }

    /** "when it becomes CLOSED .. all NETs are 0", and not before; and it is -NET(q, p) */
    void advanceClearsAllNets() {
        for (int p = 0; p < 6; p++) {
            x.issue(p, 0, 100);
        }
        x.advance();
        for (int p = 0; p < 6; p++) {
            for (int q = p + 1; q < 6; q++) {
                x.pay(p, q, 1 + p + q, 1);
            }
        }
        nets(1);
        x.advance();
        nets(1);
        x.advance();
        nets(0);
        x.advance();
        nets(0);
    }

    private void nets(int times) {
        for (int p = 0; p < 6; p++) {
            for (int q = p + 1; q < 6; q++) {
                due(times * (1 + p + q), "net(" + p + ", " + q + ")", x.net(p, q));
                due(-times * (1 + p + q), "net(" + q + ", " + p + ")", x.net(q, p));
            }
        }
    }

    /** NET is that "since the day was opened": a limit gives its whole room again on each day */
    void eachDayHasTheWholeLimit() {
        x.issue(0, 0, 100);
        x.limit(0, 1, 10);
        for (int day = 0; day < 3; day++) {
            x.advance();
            due(2 * day, "pay(0, 1, 10, 1)", x.pay(0, 1, 10, 1));
            due(1, "up to the limit", x.status(2 * day));
            due(2 * day + 1, "pay(0, 1, 1, 1)", x.pay(0, 1, 1, 1));
            due(0, "above the limit", x.status(2 * day + 1));
            x.advance();
            x.advance();
        }
        holds(1, 30, 0, 0);
    }

    /** What is held, pledged, priced and limited outlasts the day; so do the numbers. */
    void theRestOutlastsTheDay() {
        x = Scene.CUT.made();
        x.advance();
        holds(0, 65, 0, 0);
        holds(1, 62, 0, 0);
        holds(2, -30, 20, 0);
        holds(3, 60, 0, 31);
        holds(4, 5, 0, 0);
        holds(5, 0, 10, 0);
        due(10, "pledged by 2", x.position(2, 1, 1));
        due(9, "pledged by 3", x.position(3, 2, 1));
        due(80, "line(2)", x.line(2));
        due(31, "line(3)", x.line(3));
        x.advance();
        due(11, "the next number", x.pay(0, 1, 21, 1));
        due(0, "above the limit", x.status(11));
        due(12, "the next number", x.pay(0, 1, 20, 0));
        due(1, "up to the limit", x.status(12));
    }

    /** The day goes on when none waits, and when there are 40. */
    void advanceWithNothingToReturn() {
        x = Scene.FORTY_CLOSED.made();
        due(1, "advance()", x.advance());
        due(2, "advance()", x.advance());
        due(0, "advance()", x.advance());
        statuses(5, 9, 3);
        statuses(10, 39, 1);
    }

    // Promises 14 and 15: sync and crash

    /** "All that is kept (the day and the instructions, too) is made sure": in each scene, and asked by each probe */
    void syncMakesAllSure() {
        for (Scene scene : Scene.ALL) {
            Probes sure = Probes.of(y -> {
                scene.set(y);
                y.sync();
            });
            Probes back = Probes.of(y -> {
                scene.set(y);
                y.sync();
                changeAll(y);
                y.crash();
            });
            due(true, scene + ", all is as it was", sure.differenceTo(back) == null);
        }
    }

    private static void changeAll(GrossSettlement y) {
        y.cancel(y.waiting(0));
        y.prefer(y.waiting(1), 2);
        y.prefer(y.waiting(2), 0);
        y.limit(0, 1, -1);
        y.limit(5, 4, 3);
        y.pledge(2, 1, 3);
        y.release(3, 2, 3);
        y.pay(0, 2, 7, 0);
        y.deliver(2, 0, 1, 2);
        y.exchange(2, 1, 1, 2, 3);
        y.resolve();
        for (int n = 0; n < 4; n++) {
            y.advance();
            y.issue(n, 2, 5);
            y.terms(1, 20, 10);
            y.terms(2, 9, 9);
            y.pay(1, 4, 2, 1);
            y.pay(5, 4, 2, 1);
            y.deliver(5, 4, 2, 2);
        }
    }

    /** .. what each one holds and has pledged of each asset */
    void syncOfEachPosition() {
        issueAndPledge(10);
        x.sync();
        issueAndPledge(1);
        x.crash();
        for (int p = 0; p < 6; p++) {
            holds(p, 10 * (p + 1), 20 * (p + 1), 30 * (p + 1));
            due(20 * (p + 1), "pledged", x.position(p, 1, 1));
            due(30 * (p + 1), "pledged", x.position(p, 2, 1));
        }
    }

    private void issueAndPledge(int unit) {
        for (int p = 0; p < 6; p++) {
            x.issue(p, 0, unit * (p + 1));
            for (int security = 1; security < 3; security++) {
                x.issue(p, security, 2 * unit * (p + 1) * (security + 1));
                x.pledge(p, security, unit * (p + 1) * (security + 1));
            }
        }
    }

    /** .. the limit of each two, and NET of each two */
    void syncOfEachTwo() {
        Probes sure = Probes.of(y -> {
            limitAndPay(y, 20);
            y.sync();
        });
        Probes back = Probes.of(y -> {
            limitAndPay(y, 20);
            y.sync();
            limitAndPay(y, -1);
            y.crash();
        });
        due(true, "all is as it was", sure.differenceTo(back) == null);
    }

    private static void limitAndPay(GrossSettlement y, int limit) {
        for (int p = 0; p < 6; p++) {
            y.issue(p, 0, 100);
            for (int q = 0; q < 6; q++) {
                y.limit(p, q, limit);
            }
        }
        if (limit > 0) {
            y.advance();
        }
        for (int p = 0; p < 6; p++) {
            for (int q = 0; q < p; q++) {
                y.pay(p, q, p, 1);
            }
        }
    }

    /** .. the places of ten that wait */
    void syncOfTenPlaces() {
        x = Scene.TEN.made();
        x.sync();
        x.cancel(6);
        due(16, "another one is last", x.pay(5, 4, 1, 2));
        order(9, 11, 7, 8, 12, 14, 15, 5, 13, 16);
        x.crash();
        order(6, 9, 11, 7, 8, 12, 14, 15, 5, 13);
        due(BAD, "status(16)", x.status(16));
    }

    /** sync itself changes nothing but what is sure */
    void syncChangesNothingElse() {
        for (Scene scene : Scene.ALL) {
            Probes twice = Probes.of(y -> {
                scene.set(y);
                y.sync();
                y.sync();
            });
            Probes once = Probes.of(y -> {
                scene.set(y);
                y.sync();
            });
            due(true, scene + ", sync() twice", once.differenceTo(twice) == null);
            String difference = scene.probes().differenceTo(once);
            boolean isLater = difference == null || difference.startsWith("after a crash");
            due(true, scene + ", only what is sure changes", isLater);
        }
    }

    /** "After a crash: all is as it was when it was made sure last": not when it was made sure before that */
    void crashGoesBackToTheLastSync() {
        x.issue(0, 0, 1);
        x.sync();
        x.issue(0, 0, 2);
        x.sync();
        x.issue(0, 0, 4);
        x.crash();
        holds(0, 3, 0, 0);
    }

    /** "(or at first, when it never was)" */
    void crashWithoutSyncGoesBackToTheFirst() {
        Probes first = Scene.NEW.probes();
        Probes back = Probes.of(y -> {
            y.issue(0, 0, 9);
            y.issue(2, 1, 9);
            y.terms(1, 3, 3);
            y.pledge(2, 1, 4);
            y.limit(0, 1, 20);
            y.advance();
            y.pay(0, 1, 2, 1);
            y.pay(0, 2, 20, 1);
            y.crash();
        });
        due(true, "all is as at first", first.differenceTo(back) == null);
    }

    /** After a crash the same is sure still: another crash goes there again, and what was done after it is gone. */
    void crashAgain() {
        x = Scene.OPEN.made();
        x.sync();
        for (int n = 0; n < 3; n++) {
            due(11, "pay(0, 2, 7, 0)", x.pay(0, 2, 7, 0));
            due(12, "pay(0, 1, 1, 2)", x.pay(0, 1, 1, 2));
            due(0, "cancel(9)", x.cancel(9));
            due(1, "limit(0, 1, 25)", x.limit(0, 1, 25));
            due(0, "pledge(3, 2, 1)", x.pledge(3, 2, 1));
            x.crash();
            order(6, 9, 7, 8, 5);
            statuses(11, 12, BAD);
            holds(0, 65, 0, 0);
            due(9, "pledged by 3", x.position(3, 2, 1));
            due(SHORT, "NET(0, 1) is 15", x.limit(0, 1, 14));
        }
    }

    /** A crash right after sync, and right after a crash, changes nothing. */
    void crashAtOnce() {
        for (Scene scene : Scene.ALL) {
            Probes sure = Probes.of(y -> {
                scene.set(y);
                y.sync();
            });
            Probes crashed = Probes.of(y -> {
                scene.set(y);
                y.sync();
                y.crash();
                y.crash();
            });
            due(true, scene + ", crash() after sync()", sure.differenceTo(crashed) == null);
        }
    }

    /** The day is kept, too: from each day to each */
    void crashGoesBackToTheDay() {
        for (int sure = 0; sure < 3; sure++) {
            for (int more = 0; more < 4; more++) {
                x = new GrossSettlement();
                for (int n = 0; n < sure; n++) {
                    x.advance();
                }
                x.sync();
                for (int n = 0; n < more; n++) {
                    x.advance();
                }
                x.crash();
                due((sure + 1) % 3, "day " + sure + ", " + more + " more, crash(), advance()", x.advance());
            }
        }
    }

    /** An instruction that has left is one that waits again, in its place, and the other way round. */
    void crashBringsBackWhatWaited() {
        x.issue(0, 0, 10);
        x.advance();
        x.pay(0, 1, 11, 1);
        x.pay(0, 2, 10, 1);
        x.sync();
        due(1, "cancel(0)", x.cancel(0));
        due(2, "status(0)", x.status(0));
        due(1, "status(1)", x.status(1));
        x.crash();
        order(0, 1);
        statuses(0, 1, 0);
        due(1, "behind(1)", x.behind(1));
        holds(0, 10, 0, 0);
        due(0, "net(0, 2)", x.net(0, 2));
        x.cancel(0);
        x.sync();
        x.pay(0, 1, 1, 0);
        x.crash();
        order();
        due(2, "status(0)", x.status(0));
        due(1, "status(1)", x.status(1));
        due(10, "net(0, 2)", x.net(0, 2));
    }

    /** The numbers of those that a crash takes back are given again, to other instructions. */
    void crashGivesNumbersAgain() {
        x.issue(0, 0, 10);
        x.issue(3, 1, 5);
        x.advance();
        x.sync();
        x.exchange(1, 2, 2, 5, 5);
        x.prefer(0, 2);
        x.crash();
        due(0, "deliver(3, 4, 1, 5)", x.deliver(3, 4, 1, 5));
        due(1, "status(0)", x.status(0));
        holds(4, 0, 5, 0);
        due(1, "pay(2, 0, 1, 1)", x.pay(2, 0, 1, 1));
        due(2, "pay(2, 0, 1, 1)", x.pay(2, 0, 1, 1));
        order(1, 2);
        behinds(0, 1);
    }

    /** At the bounds: what was FULL is so again after a crash, or not, as it was made sure. */
    void crashAndFull() {
        x = Scene.TEN.made();
        x.sync();
        x.cancel(13);
        x.crash();
        due(FULL, "ten wait again", x.pay(0, 2, 1, 0));
        x.cancel(13);
        x.sync();
        due(16, "nine wait", x.pay(5, 4, 1, 0));
        due(FULL, "ten wait", x.pay(0, 2, 1, 0));
        x.crash();
        due(16, "nine wait again", x.pay(0, 2, 1, 0));
        x = Scene.OPEN.made();
        x.sync();
        for (int i = 11; i < 40; i++) {
            x.pay(0, 2, 1, 0);
        }
        due(FULL, "40 are there", x.pay(0, 2, 1, 0));
        x.crash();
        due(11, "11 were there", x.pay(0, 2, 1, 0));
        x = Scene.FORTY.made();
        x.sync();
        x.crash();
        due(FULL, "40 are there again", x.pay(0, 2, 1, 0));
    }
}
