/** Counts the answers that are not the due ones, and ends a test with exit code 1 if there was one. */
final class Answers {
    private int asked = 0;
    private int wrong = 0;
    private String topic = "";

    void about(String newTopic) {
        topic = newTopic;
    }

    void due(long want, String call, long got) {
        count(got == want, call, want, got);
    }

    void due(boolean want, String call, boolean got) {
        count(got == want, call, want, got);
    }

    void due(String want, String call, String got) {
        count(got.equals(want), call, want, got);
    }

    private void count(boolean isRight, String call, Object want, Object got) {
        asked++;
        if (!isRight) {
            wrong++;
            System.out.println(topic + ": " + call + " answered " + got + ", due is " + want);
        }
    }

    int asked() {
        return asked;
    }

    boolean anyWrong() {
        return wrong > 0;
    }

    void end() {
        System.out.println(asked - wrong + " of " + asked + " answers are as due");
        if (wrong > 0) {
            System.exit(1);
        }
    }
}
