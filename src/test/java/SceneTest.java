/** The scenes are what the tests of the edges take them for, and the probes see each kind of change. */
public final class SceneTest extends Edges {
    public static void main(String[] args) throws Exception {
        run(new SceneTest());
    }

    private void seen(boolean want, Scene scene, String text, Call call) {
        Probes after = Probes.of(y -> {
            scene.set(y);
            call.on(y);
        });
        due(want, scene + ", " + text + " is seen", scene.probes().differenceTo(after) != null);
    }

    void theDays() {
        int[] next = {1, 1, 2, 0, 2, 0, 2, 0, 1};
        for (Scene scene : Scene.ALL) {
            due(next[scene.ordinal()], scene + ", advance()", scene.made().advance());
        }
    }

    void closedHasNoneWaiting() {
        x = Scene.CLOSED.made();
        order();
        statuses(0, 1, 1);
        statuses(2, 2, 2);
        statuses(3, 3, 3);
        statuses(4, 4, BAD);
        holds(2, -60, 20, 0);
        due(80, "line(2)", x.line(2));
    }

    void openHasFiveWaiting() {
        x = Scene.OPEN.made();
        order(6, 9, 7, 8, 5);
        statuses(4, 4, 1);
        statuses(10, 10, 1);
        statuses(11, 11, BAD);
        due(15, "net(0, 1)", x.net(0, 1));
        x = Scene.CUT.made();
        order(6, 9, 7, 8, 5);
    }

    void tenWait() {
        x = Scene.TEN.made();
        order(6, 9, 11, 7, 8, 12, 14, 15, 5, 13);
        x = Scene.TEN_CUT.made();
        order(6, 9, 11, 7, 8, 12, 14, 15, 5, 13);
    }

    void fortyAreThere() {
        x = Scene.FORTY.made();
        order(6, 9, 7, 8, 5);
        statuses(10, 39, 1);
        x = Scene.FORTY_CUT.made();
        order(6, 9, 7, 8, 5);
        x = Scene.FORTY_CLOSED.made();
        order();
        statuses(5, 9, 3);
    }

    void eachChangeIsSeen() {
        seen(true, Scene.CLOSED, "issue", y -> y.issue(4, 2, 1) ? 1 : 0);
        seen(true, Scene.CLOSED, "terms", y -> y.terms(1, 10, 21) ? 1 : 0);
        seen(true, Scene.CLOSED, "terms", y -> y.terms(2, 8, 50) ? 1 : 0);
        seen(true, Scene.NEW, "terms", y -> y.terms(1, 1, 0) ? 1 : 0);
        seen(true, Scene.NEW, "terms", y -> y.terms(2, 1, 0) ? 1 : 0);
        for (Scene scene : new Scene[] {Scene.CLOSED, Scene.OPEN, Scene.CUT, Scene.TEN, Scene.FORTY}) {
            seen(true, scene, "advance", y -> y.advance());
            seen(true, scene, "pledge", y -> y.pledge(2, 1, 1));
            seen(true, scene, "release", y -> y.release(3, 2, 1));
            seen(true, scene, "crash", SceneTest::crash);
            seen(true, scene, "sync", SceneTest::sync);
        }
        for (Scene scene : Scene.BUSY) {
            seen(true, scene, "a limit of 21 for 20", y -> y.limit(0, 1, 21));
            seen(true, scene, "a limit of 19 for 20", y -> y.limit(0, 1, 19));
            seen(true, scene, "no limit for the greatest", y -> y.limit(4, 5, -1));
            seen(true, scene, "a less limit than the greatest", y -> y.limit(4, 5, 999999));
            seen(true, scene, "a limit of 1 for 0", y -> y.limit(3, 2, 1));
            seen(true, scene, "the greatest limit for none", y -> y.limit(2, 4, MOST));
        }
        for (Scene scene : new Scene[] {Scene.OPEN, Scene.CUT, Scene.TEN, Scene.FORTY}) {
            seen(true, scene, "cancel", y -> y.cancel(8));
            seen(true, scene, "prefer in the same place", y -> y.prefer(9, 1));
            seen(true, scene, "prefer in the same place", y -> y.prefer(8, 2));
        }
        seen(true, Scene.OPEN, "pay", y -> y.pay(0, 2, 1, 0));
        seen(true, Scene.OPEN, "deliver", y -> y.deliver(4, 2, 1, 1));
    }

    void whatChangesNothingIsNotSeen() {
        for (Scene scene : Scene.ALL) {
            seen(false, scene, "position", y -> y.position(0, 0, 0));
            seen(false, scene, "resolve", y -> y.resolve());
            seen(false, scene, "no limit where there is none", y -> y.limit(4, 3, -1));
        }
        for (Scene scene : new Scene[] {Scene.OPEN, Scene.CUT, Scene.TEN, Scene.FORTY}) {
            seen(false, scene, "the same limit", y -> y.limit(0, 1, 20));
            seen(false, scene, "the same priority", y -> y.prefer(7, 1));
        }
    }

    private static long crash(GrossSettlement y) {
        y.crash();
        return 0;
    }

    private static long sync(GrossSettlement y) {
        y.sync();
        return 0;
    }
}
