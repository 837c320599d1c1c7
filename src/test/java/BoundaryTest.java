/**
 * The boundary cases of the document's terms and of promises 1 to 14: one test for each sentence
 * that names one, under the document's words. What a refused call leaves as it was is looked at by
 * RefusedTest, and the six steps of a tick by TickBoundaryTest.
 */
public final class BoundaryTest extends Checks {
    private static final int LEAST = Integer.MIN_VALUE;
    private static final int GREATEST = Integer.MAX_VALUE;

    public static void main(String[] args) {
        oneToSixLevels();
        quantumOneToHundred();
        shareOneToThousand();
        upToSixteenProcesses();
        upToTwelveBursts();
        burstsOneToFiveThousand();
        burstsOnTheProcessorAndAtTheDevice();
        noBurstEndsAsItComes();
        comesAtLevelZero();
        toldAsLongAsTheTimeIsZero();
        call512();
        newObject();
        levelsRange();
        levelsAtAnyTime();
        levelsSetAllBack();
        periodStays();
        levelThrows();
        periodThrows();
        processAnswers();
        processThrows();
        burstAnswers();
        burstThrows();
        runRange();
        runUpToTheLastTime();
        runAnswersItsOwnIdleTicks();
        restartAtAnyTime();
        restartAsTold();
        time();
        toldBeforeAndAfter();
        toldThrows();
        running();
        queuedPlaces();
        queuedThrows();
        allCounts();
        allThrows();
        firstFourHundredAreKept();
        switchedThrows();
        tickTimesSixteen();
        finish("all boundary cases of the terms and promises hold");
    }

    // Terms

    private static void oneToSixLevels() {
        part("'LEVELS 0, 1, .., one to six'");
        Counted x = new Counted();
        for (int n = 1; n <= 6; n++) {
            x.levels(n);
            int count = n;
            x.level(n - 1, 1, 1);
            refused("level(" + n + ", 1, 1) of " + n, INDEX, () -> x.level(count, 1, 1));
            addProcess(x, 0, 20);
            x.run(10);
            due("lowest of " + n + " levels", n - 1, x.told(0, 1));
        }
    }

    private static void quantumOneToHundred() {
        part("'a QUANTUM, 1 to 100'");
        Counted least = new Counted();
        least.level(0, 1, 1000);
        addProcess(least, 0, 9);
        addProcess(least, 0, 9);
        timelineDue(least, "0101");
        Counted most = new Counted();
        most.level(0, 100, 1000);
        addProcess(most, 0, 500);
        addProcess(most, 0, 500);
        most.run(99);
        due("running with 1 tick left", 0, most.running());
        most.run(1);
        due("running with none left", -1, most.running());
        most.run(1);
        due("the second switch", 16 * 100 + 1, most.switched(1));
    }

    private static void shareOneToThousand() {
        part("'a SHARE, 1 to 1000'");
        Counted least = new Counted();
        least.levels(2);
        least.level(0, 100, 1);
        addProcess(least, 0, 9);
        least.run(1);
        due("level with none left of 1", 1, least.told(0, 1));
        Counted most = new Counted();
        most.levels(2);
        most.level(0, 1, 1000);
        addProcess(most, 0, 5000);
        most.run(999);
        due("level with 1 tick left of 1000", 0, most.told(0, 1));
        most.run(1);
        due("level with none left of 1000", 1, most.told(0, 1));
    }

    private static void upToSixteenProcesses() {
        part("'PROCESSES, up to 16, numbered as they come'");
        Counted x = new Counted();
        for (int i = 0; i < 16; i++) {
            due("process " + i, i, addProcess(x, 15 - i, 1));
        }
        due("one more", -1, x.process(0));
        x.run(16);
        for (int i = 0; i < 16; i++) {
            due("first tick of " + i, 15 - i, x.told(i, 5));
        }
        due("ended", 16, x.all(3));
    }

    private static void upToTwelveBursts() {
        part("'up to 12 BURSTS'");
        Counted x = new Counted();
        x.process(0);
        for (int i = 1; i <= 12; i++) {
            due("burst " + i, i, x.burst(0, 1));
        }
        due("one more", -1, x.burst(0, 1));
        timelineDue(x, "0.0.0.0.0.0.");
        due("still at the device", 3, x.told(0, 0));
        x.run(1);
        toldDue(x, 0, 4, 0, 6, 0, 6, 0, 12, 6, 0, 0);
    }

    private static void burstsOneToFiveThousand() {
        part("'1 to 5000 ticks each'");
        Counted x = new Counted();
        x.level(0, 100, 1000);
        addProcess(x, 0, 5000, 5000, 1, 1);
        x.run(4999);
        due("running with 1 tick left of 5000", 0, x.running());
        x.run(1);
        due("at the device", 3, x.told(0, 0));
        x.run(5000);
        due("at the device, done with it", 3, x.told(0, 0));
        due("at the device for so long", 5000, x.told(0, 4));
        x.run(1);
        due("at the device after 1 tick on the processor", 3, x.told(0, 0));
        due("on the processor for so long", 5001, x.told(0, 2));
        x.run(2);
        toldDue(x, 0, 4, 0, 5001, 0, 5001, 0, 10002, 51, 0, 0);
    }

    private static void burstsOnTheProcessorAndAtTheDevice() {
        part("'on the processor, at the device, on the processor, ..'");
        Counted x = new Counted();
        x.level(0, 9, 99);
        addProcess(x, 0, 1, 2, 3, 4, 1);
        timelineDue(x, "0..000....0.");
        due("on the processor", 5, x.told(0, 2));
        due("at the device", 6, x.told(0, 4));
    }

    private static void noBurstEndsAsItComes() {
        part("'One with no burst ends as it comes'");
        Counted x = new Counted();
        addProcess(x, 0);
        addProcess(x, 3);
        due("to come", 0, x.told(0, 0));
        x.run(1);
        toldDue(x, 0, 4, 0, 0, 0, 0, -1, 0, 0, 0, 0);
        x.run(2);
        toldDue(x, 1, 0, 0, 0, 0, 0, -1, -1, 0, 0, 0);
        due("idle", 1, x.run(1));
        toldDue(x, 1, 4, 0, 0, 0, 0, -1, 3, 0, 0, 0);
        queueDue(x, 0);
        allDue(x, 0, 4, 0, 2);
    }

    private static void comesAtLevelZero() {
        part("'It comes at level 0, with that level's share'");
        Counted x = new Counted();
        x.levels(2);
        x.level(0, 9, 3);
        x.level(1, 9, 1);
        addProcess(x, 4, 9);
        due("level, to come", 0, x.told(0, 1));
        x.run(6);
        due("level with 1 tick left of 3", 0, x.told(0, 1));
        x.run(1);
        due("level with none left of 3", 1, x.told(0, 1));
    }

    private static void toldAsLongAsTheTimeIsZero() {
        part("'Levels, the period, arrivals and bursts can be told as long as the time is 0'");
        Counted x = new Counted();
        x.run(0);
        tellAll(x, "after run(0)", "nothing", "0", "1");
        x.run(1);
        tellAll(x, "at time 1", STATE, STATE, STATE);
        x.run(30000);
        x.run(30000);
        x.run(30000);
        x.run(9999);
        tellAll(x, "at time 100000", STATE, STATE, STATE);
        x.restart();
        tellAll(x, "after restart", "nothing", "1", "2");
        x.run(1);
        x.levels(1);
        tellAll(x, "after levels", "nothing", "0", "1");
    }

    private static void tellAll(Counted x, String when, String want, String wantProcess, String wantBurst) {
        same("level " + when, want, answerOf(() -> x.level(0, 2, 2)));
        same("period " + when, want, answerOf(() -> x.period(5)));
        same("process " + when, wantProcess, answerOf(() -> x.process(0)));
        same("burst " + when, wantBurst, answerOf(() -> x.burst(0, 1)));
    }

    private static void call512() {
        part("'An object is used for at most 512 calls after it has been made'");
        Counted x = new Counted();
        addProcess(x, 0, 5000);
        while (x.callsLeft() > 1) {
            x.run(1);
        }
        due("the 512th call", 509, x.told(0, 2));
    }

    // Promise 1

    private static void newObject() {
        part("Promise 1: 'One level, quantum 1, share 1; the period 0; no processes; time 0'");
        Counted x = new Counted();
        queueDue(x, 0);
        refused("level(1, 1, 1)", INDEX, () -> x.level(1, 1, 1));
        refused("queued(1, 0)", INDEX, () -> x.queued(1, 0));
        refused("told(0, 0)", INDEX, () -> x.told(0, 0));
        refused("burst(0, 1)", INDEX, () -> x.burst(0, 1));
        due("time", 0, x.time());
        due("running", -1, x.running());
        allDue(x, 0, 0, 0, 0);
        addProcess(x, 0, 3);
        addProcess(x, 0, 3);
        timelineDue(x, "010101");
        x.run(30000);
        due("came up", 0, x.all(2));
    }

    // Promise 2

    private static void levelsRange() {
        part("Promise 2: 'n is not 1 to 6'");
        Counted x = new Counted();
        for (int n : new int[] {0, -1, 7, LEAST, GREATEST}) {
            refused("levels(" + n + ")", ARGUMENT, () -> x.levels(n));
        }
        x.levels(1);
        refused("queued(1, 0) of 1", INDEX, () -> x.queued(1, 0));
        x.levels(6);
        due("queued(5, 0) of 6", -1, x.queued(5, 0));
        refused("queued(6, 0) of 6", INDEX, () -> x.queued(6, 0));
    }

    private static void levelsAtAnyTime() {
        part("Promise 2: 'all processes are gone, the time is 0'");
        Counted x = new Counted();
        addProcess(x, 0, 3, 4, 2);
        addProcess(x, 0, 9);
        addProcess(x, 0);
        x.run(7);
        x.levels(1);
        due("time", 0, x.time());
        due("running", -1, x.running());
        queueDue(x, 0);
        allDue(x, 0, 0, 0, 0);
        refused("switched(0)", INDEX, () -> x.switched(0));
        refused("told(0, 0)", INDEX, () -> x.told(0, 0));
        refused("burst(0, 1)", INDEX, () -> x.burst(0, 1));
        due("none of them runs", 20, x.run(20));
        x.restart();
        due("first process", 0, x.process(0));
        due("its first burst", 1, x.burst(0, 1));
        toldDue(x, 0, 0, 0, 0, 0, 0, -1, -1, 0, 0, 0);
        timelineDue(x, "0..");
    }

    private static void levelsSetAllBack() {
        part("Promise 2: 'n levels, all with quantum 1 and share 1'");
        Counted x = new Counted();
        x.levels(6);
        for (int i = 0; i < 6; i++) {
            x.level(i, 7, 9);
        }
        // The last five must not come back with what they were told before.
        x.levels(1);
        x.levels(6);
        addProcess(x, 0, 30);
        addProcess(x, 0, 30);
        timelineDue(x, "010101010101010101");
        due("level", 5, x.told(0, 1));
        due("down", 5, x.told(0, 8));
    }

    private static void periodStays() {
        part("Promise 2: 'the period stays'");
        Counted x = new Counted();
        x.period(4);
        x.levels(2);
        x.run(9);
        due("came up", 2, x.all(2));
        x.levels(3);
        x.run(5);
        due("came up after levels at time 9", 1, x.all(2));
    }

    // Promise 3

    private static void levelThrows() {
        part("Promise 3: 'there is no such level', 'one is out of its range', 'the time isn't 0'");
        Counted x = new Counted();
        x.levels(3);
        for (int level : new int[] {-1, 3, 5, 6, LEAST, GREATEST}) {
            levelRefused(x, INDEX, level, 1, 1);
        }
        for (int wrong : new int[] {0, -1, LEAST, GREATEST}) {
            levelRefused(x, ARGUMENT, 2, wrong, 1);
            levelRefused(x, ARGUMENT, 2, 1, wrong);
            levelRefused(x, ARGUMENT, 2, wrong, wrong);
        }
        levelRefused(x, ARGUMENT, 0, 101, 1000);
        levelRefused(x, ARGUMENT, 0, 100, 1001);
        same("level(0, 100, 1000)", "nothing", answerOf(() -> x.level(0, 100, 1000)));
        same("level(2, 1, 1)", "nothing", answerOf(() -> x.level(2, 1, 1)));
        levelRefused(x, INDEX, 3, 0, 0);
        x.run(1);
        levelRefused(x, STATE, 0, 100, 1000);
        levelRefused(x, STATE, 2, 1, 1);
        levelRefused(x, ARGUMENT, 2, 0, 1);
        levelRefused(x, ARGUMENT, 2, 1, 1001);
        levelRefused(x, INDEX, 3, 1, 1);
        levelRefused(x, INDEX, -1, 0, 0);
    }

    private static void levelRefused(Counted x, String want, int level, int quantum, int share) {
        refused("level(" + level + ", " + quantum + ", " + share + ")", want, () -> x.level(level, quantum, share));
    }

    // Promise 4

    private static void periodThrows() {
        part("Promise 4: 'it is not 0 to 10000', 'the time isn't 0'");
        Counted x = new Counted();
        int[] wrong = {-1, 10001, LEAST, GREATEST};
        for (int period : wrong) {
            refused("period(" + period + ")", ARGUMENT, () -> x.period(period));
        }
        for (int period : new int[] {0, 1, 10000}) {
            same("period(" + period + ")", "nothing", answerOf(() -> x.period(period)));
        }
        x.run(1);
        for (int period : wrong) {
            refused("period(" + period + ") at time 1", ARGUMENT, () -> x.period(period));
        }
        for (int period : new int[] {0, 1, 10000}) {
            refused("period(" + period + ") at time 1", STATE, () -> x.period(period));
        }
    }

    // Promise 5

    private static void processAnswers() {
        part("Promise 5: 'Answers its number; NONE when there are 16'");
        Counted x = new Counted();
        for (int i = 0; i < 16; i++) {
            due("process " + i, i, x.process(i % 2 == 0 ? 0 : 20000));
        }
        due("the 17th", -1, x.process(0));
        due("the 17th of the last arrival", -1, x.process(20000));
        refused("told(16, 0)", INDEX, () -> x.told(16, 0));
        x.run(20000);
        due("ended before tick 20000", 8, x.all(3));
        x.run(1);
        due("ended in tick 20000", 16, x.all(3));
        due("when it ended", 20000, x.told(15, 6));
        x.restart();
        due("the 17th after restart", -1, x.process(0));
    }

    private static void processThrows() {
        part("Promise 5: 'arrival is not 0 to 20000', 'the time isn't 0'");
        Counted x = new Counted();
        int[] wrong = {-1, 20001, LEAST, GREATEST};
        for (int arrival : wrong) {
            refused("process(" + arrival + ")", ARGUMENT, () -> x.process(arrival));
        }
        for (int i = 0; i < 16; i++) {
            x.process(0);
        }
        for (int arrival : wrong) {
            refused("process(" + arrival + ") when there are 16", ARGUMENT, () -> x.process(arrival));
        }
        x.run(1);
        refused("process(0) at time 1 when there are 16", STATE, () -> x.process(0));
        for (int arrival : wrong) {
            refused("process(" + arrival + ") at time 1", ARGUMENT, () -> x.process(arrival));
        }
        x.levels(1);
        x.run(1);
        refused("process(0) at time 1", STATE, () -> x.process(0));
        refused("process(20000) at time 1", STATE, () -> x.process(20000));
    }

    // Promise 6

    private static void burstAnswers() {
        part("Promise 6: 'Answers how many it has; NONE when there are 12'");
        Counted x = new Counted();
        for (int p = 0; p < 16; p++) {
            x.process(0);
        }
        for (int i = 1; i <= 12; i++) {
            due("burst " + i + " of 0", i, x.burst(0, 5000));
            due("burst " + i + " of 15", i, x.burst(15, 1));
        }
        due("the 13th of 0", -1, x.burst(0, 1));
        due("the 13th of 15", -1, x.burst(15, 5000));
        due("the first of 7", 1, x.burst(7, 1));
        x.run(3);
        x.restart();
        due("the 13th of 0 after restart", -1, x.burst(0, 1));
        due("the second of 7 after restart", 2, x.burst(7, 1));
    }

    private static void burstThrows() {
        part("Promise 6: 'there is no such process', 'ticks is not 1 to 5000', 'the time isn't 0'");
        Counted x = new Counted();
        refused("burst(0, 1) of none", INDEX, () -> x.burst(0, 1));
        x.process(0);
        x.process(0);
        int[] wrong = {0, -1, 5001, LEAST, GREATEST};
        for (int ticks : wrong) {
            refused("burst(1, " + ticks + ")", ARGUMENT, () -> x.burst(1, ticks));
            refused("burst(2, " + ticks + ")", INDEX, () -> x.burst(2, ticks));
        }
        for (int process : new int[] {-1, 2, 16, LEAST, GREATEST}) {
            refused("burst(" + process + ", 1)", INDEX, () -> x.burst(process, 1));
        }
        for (int i = 0; i < 12; i++) {
            x.burst(0, 1);
        }
        for (int ticks : wrong) {
            refused("burst(0, " + ticks + ") when there are 12", ARGUMENT, () -> x.burst(0, ticks));
        }
        x.run(1);
        refused("burst(0, 1) at time 1 when there are 12", STATE, () -> x.burst(0, 1));
        refused("burst(1, 1) at time 1", STATE, () -> x.burst(1, 1));
        refused("burst(1, 5000) at time 1", STATE, () -> x.burst(1, 5000));
        refused("burst(1, 0) at time 1", ARGUMENT, () -> x.burst(1, 0));
        refused("burst(1, 5001) at time 1", ARGUMENT, () -> x.burst(1, 5001));
        refused("burst(2, 1) at time 1", INDEX, () -> x.burst(2, 1));
        refused("burst(2, 0) at time 1", INDEX, () -> x.burst(2, 0));
    }

    // Promise 7

    private static void runRange() {
        part("Promise 7: 'ticks is not 0 to 30000'");
        Counted x = new Counted();
        for (int ticks : new int[] {-1, 30001, LEAST, GREATEST}) {
            refused("run(" + ticks + ")", ARGUMENT, () -> x.run(ticks));
        }
        due("run(0)", 0, x.run(0));
        due("time after run(0)", 0, x.time());
        due("run(30000)", 30000, x.run(30000));
        due("time after run(30000)", 30000, x.time());
        for (int ticks : new int[] {-1, -30000, 30001, LEAST, GREATEST}) {
            refused("run(" + ticks + ") at time 30000", ARGUMENT, () -> x.run(ticks));
        }
        due("time after these", 30000, x.time());
    }

    private static void runUpToTheLastTime() {
        part("Promise 7: 'or the time would be above 100000'");
        Counted x = new Counted();
        addProcess(x, 0, 1);
        x.run(30000);
        x.run(30000);
        x.run(10001);
        refused("run(30000) at time 70001", ARGUMENT, () -> x.run(30000));
        due("time when refused", 70001, x.time());
        due("idle when refused", 70000, x.all(1));
        due("run(29998)", 29998, x.run(29998));
        refused("run(2) at time 99999", ARGUMENT, () -> x.run(2));
        due("run(1) at time 99999", 1, x.run(1));
        due("time at last", 100000, x.time());
        refused("run(1) at time 100000", ARGUMENT, () -> x.run(1));
        refused("run(30000) at time 100000", ARGUMENT, () -> x.run(30000));
        refused("run(-1) at time 100000", ARGUMENT, () -> x.run(-1));
        refused("run of the greatest at time 100000", ARGUMENT, () -> x.run(GREATEST));
        due("run(0) at time 100000", 0, x.run(0));
        x.restart();
        due("run(30000) after restart", 29999, x.run(30000));
        runFromSeventyThousand();
    }

    private static void runFromSeventyThousand() {
        Counted x = new Counted();
        x.run(30000);
        x.run(30000);
        x.run(10000);
        due("run(30000) at time 70000", 30000, x.run(30000));
        due("time", 100000, x.time());
    }

    private static void runAnswersItsOwnIdleTicks() {
        part("Promise 7: 'Answers how many of them were idle'");
        Counted x = new Counted();
        addProcess(x, 2, 3);
        due("both before it comes", 2, x.run(2));
        due("none while it runs", 0, x.run(3));
        due("none of none", 0, x.run(0));
        due("all behind it", 4, x.run(4));
        x.restart();
        due("some", 6, x.run(9));
    }

    // Promise 8

    private static void restartAtAnyTime() {
        part("Promise 8: 'The time is 0 again'");
        Counted x = new Counted();
        x.restart();
        due("time of a new object", 0, x.time());
        for (int i = 0; i < 3; i++) {
            x.run(30000);
        }
        x.run(10000);
        x.restart();
        due("time after the last one", 0, x.time());
        allDue(x, 0, 0, 0, 0);
        x.restart();
        due("time after two restarts", 0, x.time());
        due("run(1)", 1, x.run(1));
    }

    private static void restartAsTold() {
        part("Promise 8: 'processes are to come, as told'");
        Counted untouched = fiveStates();
        untouched.run(30);
        String want = stateOf(untouched);
        for (int stop : new int[] {0, 1, 10, 17, 18, 30}) {
            Counted x = fiveStates();
            x.run(stop);
            x.restart();
            due("time after a stop at " + stop, 0, x.time());
            due("running after a stop at " + stop, -1, x.running());
            queueDue(x, 0);
            queueDue(x, 1);
            allDue(x, 0, 0, 0, 0);
            refused("switched(0) after a stop at " + stop, INDEX, () -> x.switched(0));
            for (int p = 0; p < 5; p++) {
                toldDue(x, p, 0, 0, 0, 0, 0, -1, -1, 0, 0, 0);
            }
            x.run(30);
            same("the state at time 30 after a stop at " + stop, want, stateOf(x));
        }
    }

    /** At time 10 one is ready, put to the front; one blocked, one ended, one running, one to come. */
    private static Counted fiveStates() {
        Counted x = new Counted();
        x.levels(2);
        x.level(0, 2, 3);
        x.level(1, 9, 20);
        x.period(17);
        addProcess(x, 0, 12);
        addProcess(x, 1, 1, 9, 5);
        addProcess(x, 3);
        addProcess(x, 9, 5, 1, 2);
        addProcess(x, 14, 3);
        return x;
    }

    // Promise 9

    private static void time() {
        part("Promise 9, and 'The TIME is the number of ticks that were done, 0 at first'");
        Counted x = new Counted();
        due("at first", 0, x.time());
        x.run(0);
        due("after run(0)", 0, x.time());
        x.run(1);
        due("after run(1)", 1, x.time());
        x.run(30000);
        due("after run(30000)", 30001, x.time());
        x.run(30000);
        x.run(30000);
        x.run(9999);
        due("at last", 100000, x.time());
    }

    // Promise 10

    private static void toldBeforeAndAfter() {
        part("Promise 10: '0 as long as it is to come', 'NONE before'");
        Counted x = new Counted();
        x.levels(2);
        x.level(0, 1, 1);
        x.level(1, 9, 9);
        addProcess(x, 0, 2);
        addProcess(x, 0, 2, 1);
        toldDue(x, 0, 0, 0, 0, 0, 0, -1, -1, 0, 0, 0);
        x.run(1);
        toldDue(x, 0, 1, 1, 1, 0, 0, 0, -1, 1, 1, 0);
        toldDue(x, 1, 1, 0, 0, 1, 0, -1, -1, 0, 0, 0);
        x.run(2);
        toldDue(x, 0, 4, 1, 2, 1, 0, 0, 3, 2, 1, 0);
        toldDue(x, 1, 1, 1, 1, 2, 0, 1, -1, 1, 1, 0);
        x.run(1);
        toldDue(x, 1, 3, 1, 2, 2, 0, 1, -1, 2, 1, 0);
        x.run(1);
        toldDue(x, 1, 3, 1, 2, 2, 1, 1, -1, 2, 1, 0);
        x.run(1);
        toldDue(x, 1, 4, 1, 2, 2, 1, 1, 5, 2, 1, 0);
        x.run(1000);
        toldDue(x, 0, 4, 1, 2, 1, 0, 0, 3, 2, 1, 0);
        toldDue(x, 1, 4, 1, 2, 2, 1, 1, 5, 2, 1, 0);
    }

    private static void toldThrows() {
        part("Promise 10: 'there is no such process', 'another what'");
        Counted x = new Counted();
        refused("told(0, 0) of none", INDEX, () -> x.told(0, 0));
        refused("told(0, 10) of none", INDEX, () -> x.told(0, 10));
        x.process(0);
        x.process(0);
        for (int process : new int[] {-1, 2, 16, LEAST, GREATEST}) {
            refused("told(" + process + ", 0)", INDEX, () -> x.told(process, 0));
            refused("told(" + process + ", 10)", INDEX, () -> x.told(process, 10));
        }
        for (int what : new int[] {-1, 10, LEAST, GREATEST}) {
            refused("told(1, " + what + ")", ARGUMENT, () -> x.told(1, what));
        }
        due("told(1, 9)", 0, x.told(1, 9));
    }

    // Promise 11

    private static void running() {
        part("Promise 11: 'The running process; NONE'");
        Counted x = new Counted();
        x.level(0, 3, 9);
        for (int p = 0; p < 15; p++) {
            addProcess(x, 1);
        }
        addProcess(x, 2, 4);
        int[] after = {-1, -1, 15, 15, -1, -1, -1};
        due("at first", -1, x.running());
        for (int t = 0; t < after.length; t++) {
            x.run(1);
            due("after tick " + t, after[t], x.running());
        }
    }

    // Promise 12

    private static void queuedPlaces() {
        part("Promise 12: 'at place k, from 0 on', 'NONE when there is none'");
        Counted x = new Counted();
        x.levels(2);
        x.level(0, 1, 9);
        for (int p = 0; p < 16; p++) {
            addProcess(x, 0, 2);
        }
        due("place 0, all being to come", -1, x.queued(0, 0));
        x.run(1);
        for (int k = 0; k < 16; k++) {
            due("place " + k, (k + 1) % 16, x.queued(0, k));
        }
        for (int k : new int[] {16, 17, -1, LEAST, GREATEST}) {
            due("place " + k, -1, x.queued(0, k));
        }
        due("place 0 of the empty one", -1, x.queued(1, 0));
        x.run(30);
        due("place 0, one being left", 15, x.queued(0, 0));
        due("place 1, one being left", -1, x.queued(0, 1));
        x.run(1);
        due("place 0, all being ended", -1, x.queued(0, 0));
    }

    private static void queuedThrows() {
        part("Promise 12: 'there is no such level'");
        Counted x = new Counted();
        x.levels(6);
        due("queued(5, 0) of 6", -1, x.queued(5, 0));
        refused("queued(6, 0) of 6", INDEX, () -> x.queued(6, 0));
        x.levels(2);
        for (int level : new int[] {-1, 2, 5, 6, LEAST, GREATEST}) {
            refused("queued(" + level + ", 0)", INDEX, () -> x.queued(level, 0));
            refused("queued(" + level + ", -1)", INDEX, () -> x.queued(level, -1));
        }
    }

    // Promise 13

    private static void allCounts() {
        part("Promise 13: 'switches', 'idle ticks', 'times that all came up by 1.', 'processes that have ended'");
        Counted x = new Counted();
        x.period(2);
        allDue(x, 0, 0, 0, 0);
        x.run(5);
        allDue(x, 0, 5, 2, 0);
        x.restart();
        allDue(x, 0, 0, 0, 0);
        for (int p = 0; p < 16; p++) {
            addProcess(x, 1, 50);
        }
        x.run(1000);
        // A quantum is 1 tick, so that each tick that isn't idle has a switch.
        allDue(x, 16 * 50, 1000 - 16 * 50, 499, 16);
    }

    private static void allThrows() {
        part("Promise 13: 'another what'");
        Counted x = new Counted();
        for (int what : new int[] {-1, 4, LEAST, GREATEST}) {
            refused("all(" + what + ")", ARGUMENT, () -> x.all(what));
        }
    }

    // Promise 14

    private static void firstFourHundredAreKept() {
        part("Promise 14: 'the first 400 are kept'");
        Counted x = new Counted();
        addProcess(x, 0, 400);
        addProcess(x, 0, 400);
        x.run(399);
        due("switch 398 of 399", 16 * 398, x.switched(398));
        refused("switch 399 of 399", INDEX, () -> x.switched(399));
        x.run(1);
        due("switch 399 of 400", 16 * 399 + 1, x.switched(399));
        refused("switch 400 of 400", INDEX, () -> x.switched(400));
        x.run(1);
        due("switches", 401, x.all(0));
        refused("switch 400 of 401", INDEX, () -> x.switched(400));
        x.run(1000);
        due("switches at last", 800, x.all(0));
        for (int k = 0; k < 400; k += 7) {
            due("switch " + k + " of 800", 16 * k + k % 2, x.switched(k));
        }
        due("switch 399 of 800", 16 * 399 + 1, x.switched(399));
        refused("switch 799 of 800", INDEX, () -> x.switched(799));
    }

    private static void switchedThrows() {
        part("Promise 14: 'it is not kept'");
        Counted x = new Counted();
        for (int k : new int[] {0, -1, 399, 400, LEAST, GREATEST}) {
            refused("switched(" + k + ") of none", INDEX, () -> x.switched(k));
        }
        addProcess(x, 5, 9);
        x.run(5);
        refused("switched(0) before the first", INDEX, () -> x.switched(0));
        x.run(1);
        due("switched(0)", 80, x.switched(0));
        for (int k : new int[] {1, -1, LEAST, GREATEST}) {
            refused("switched(" + k + ") of one", INDEX, () -> x.switched(k));
        }
        x.restart();
        refused("switched(0) after restart", INDEX, () -> x.switched(0));
        x.run(6);
        x.levels(1);
        refused("switched(0) after levels", INDEX, () -> x.switched(0));
    }

    private static void tickTimesSixteen() {
        part("Promise 14: '16 times its tick, and the process'");
        Counted x = new Counted();
        x.level(0, 100, 1000);
        for (int p = 0; p < 15; p++) {
            x.process(0);
        }
        addProcess(x, 20000, 5000, 5000, 5000, 5000, 5000, 5000, 5000, 5000, 5000, 5000, 5000);
        x.run(30000);
        x.run(30000);
        x.run(30000);
        // The first burst takes 50 switches. It uses up the share in its last tick, so that each of
        // the five behind it takes one more, a tick after its first.
        due("the first", 16 * 20000 + 15, x.switched(0));
        due("the first of the second burst", 16 * 30000 + 15, x.switched(50));
        due("the second of it", 16 * 30001 + 15, x.switched(51));
        due("the first of the last burst", 16 * 70000 + 15, x.switched(50 + 4 * 51));
        due("the last", 16 * 74901 + 15, x.switched(50 + 5 * 51 - 1));
        refused("one more", INDEX, () -> x.switched(50 + 5 * 51));
        due("ended", 75000, x.told(15, 6));
    }
}
