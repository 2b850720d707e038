/** Runs of 512 calls, the same ones each time, on the class and on the plain model side by side. */
public final class ModelTest {
    private static final int RUNS = 2000;
    private static final int LIVELY_RUNS = 500;
    private static final int BEGINNING = 30;
    /** So many instructions at most are made sure in a lively run, so that a crash leaves room for others. */
    private static final int SURE_AT_MOST = 25;

    /** Each call as often as its number says, among those made at the beginning of a run. */
    private static final Object[] AT_FIRST = {"issue", 12, "terms", 3, "pledge", 3, "limit", 1};
    private static final Object[] LATER = {
        "issue", 1, "terms", 1, "pledge", 3, "release", 3, "limit", 5, "pay", 16, "deliver", 6,
        "exchange", 8, "cancel", 2, "prefer", 4, "resolve", 6, "advance", 1, "sync", 2, "crash", 1,
        "position", 4, "line", 1, "net", 3, "status", 4, "waiting", 3, "behind", 5};

    private final SideBySide both = new SideBySide(new Answers());
    private RandomCalls calls;
    private int rings = 0;
    private int acceptedLate = 0;
    private int settledLate = 0;
    private int ringsLate = 0;

    public static void main(String[] args) throws Exception {
        ModelTest test = new ModelTest();
        for (int run = 0; run < RUNS && !test.both.answers.anyWrong(); run++) {
            test.run(run);
        }
        for (int run = 0; run < LIVELY_RUNS && !test.both.answers.anyWrong(); run++) {
            test.livelyRun(run, run % 2 == 0);
        }
        test.lookAtWhatWasReached();
        test.both.answers.end();
    }

    private void begin(String topic, int seed) throws Exception {
        both.begin(topic + " " + seed);
        calls = new RandomCalls(both, seed);
        while (both.calls() < BEGINNING) {
            calls.make(calls.pick(AT_FIRST));
        }
        calls.make("advance");
    }

    private void end() {
        rings += both.model().ringsFound;
        if (!both.answers.anyWrong()) {
            both.answers.due(SideBySide.MOST_CALLS, "calls of this run", both.calls());
        }
    }

    private void run(int seed) throws Exception {
        begin("run", seed);
        while (both.goesOn() && both.calls() < SideBySide.MOST_CALLS - SideBySide.LOOK) {
            calls.make(!both.model().isOpen() && calls.oneIn(5) ? "advance" : calls.pick(LATER));
        }
        both.lookAtAll();
        end();
    }

    /**
     * Instructions are accepted and settled until the last calls: when there are 40, a crash makes room
     * again. What is short of the look at all in the end is asked by the calls in between.
     */
    private void livelyRun(int seed, boolean looksInTheEnd) throws Exception {
        begin("lively run", seed);
        int last = SideBySide.MOST_CALLS - (looksInTheEnd ? SideBySide.LOOK : 0);
        while (both.goesOn() && both.calls() < last) {
            int accepted = both.model().accepted();
            int settled = both.model().settled();
            int found = both.model().ringsFound;
            if (last - both.calls() >= RandomCalls.RING && calls.oneIn(12)) {
                calls.makeRing();
            } else {
                calls.make(next(calls.pick(LATER)));
            }
            if (both.calls() > last - 50) {
                acceptedLate += Math.max(0, both.model().accepted() - accepted);
                settledLate += Math.max(0, both.model().settled() - settled);
                ringsLate += both.model().ringsFound - found;
            }
        }
        if (looksInTheEnd) {
            both.lookAtAll();
        }
        end();
    }

    private String next(String picked) {
        boolean isFull = both.model().accepted() == 40;
        if (isFull && calls.oneIn(8)) {
            return "crash";
        }
        if (!both.model().isOpen() && calls.oneIn(5)) {
            return "advance";
        }
        return picked.equals("sync") && both.model().accepted() > SURE_AT_MOST ? "resolve" : picked;
    }

    private void lookAtWhatWasReached() {
        both.answers.about("what the runs reach");
        reaches(rings + " rings", rings > 500);
        reaches(acceptedLate + " accepted late", acceptedLate > 1000);
        reaches(settledLate + " settled late", settledLate > 1000);
        reaches(ringsLate + " rings late", ringsLate > 100);
        for (String answer : new String[] {"pay -1", "pay -2", "pay -3", "pledge -4", "release -4", "limit -4",
                "pay 39", "terms 0", "terms 1", "pledge 1", "release 1", "limit 1", "cancel 1", "prefer 1", "resolve 5"}) {
            reaches(answer, both.reached.getOrDefault(answer, 0) > 0);
        }
    }

    private void reaches(String what, boolean isReached) {
        both.answers.due(true, what, isReached);
    }
}
