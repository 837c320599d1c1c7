/**
 * An object under test whose calls are counted: what it answers after 512 of them is free, so a
 * test that would look there is wrong itself and stops.
 */
final class Counted {
    private static final int MOST_CALLS = 512;

    private final FeedbackQueues inner = new FeedbackQueues();
    private int calls = 0;
    private int levelCount = 1;
    private int processCount = 0;

    private FeedbackQueues next() {
        calls++;
        if (calls > MOST_CALLS) {
            throw new AssertionError("a test makes more than " + MOST_CALLS + " calls on one object");
        }
        return inner;
    }

    int callsLeft() {
        return MOST_CALLS - calls;
    }

    /** How many levels and processes there must be by what was told and not refused. */
    int levelCount() {
        return levelCount;
    }

    int processCount() {
        return processCount;
    }

    void levels(int n) {
        next().levels(n);
        levelCount = n;
        processCount = 0;
    }

    void level(int level, int quantum, int share) {
        next().level(level, quantum, share);
    }

    void period(int period) {
        next().period(period);
    }

    int process(int arrival) {
        int answer = next().process(arrival);
        processCount += answer == FeedbackQueues.NONE ? 0 : 1;
        return answer;
    }

    int burst(int process, int ticks) {
        return next().burst(process, ticks);
    }

    int run(int ticks) {
        return next().run(ticks);
    }

    void restart() {
        next().restart();
    }

    int time() {
        return next().time();
    }

    int told(int process, int what) {
        return next().told(process, what);
    }

    int running() {
        return next().running();
    }

    int queued(int level, int k) {
        return next().queued(level, k);
    }

    int all(int what) {
        return next().all(what);
    }

    int switched(int k) {
        return next().switched(k);
    }
}
