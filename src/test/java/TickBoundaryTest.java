/**
 * The boundary cases of a tick's six steps: one test for each sentence of the document that names
 * one, under the document's words. Every answer was worked out by hand.
 */
public final class TickBoundaryTest extends Checks {
    public static void main(String[] args) {
        noPeriod();
        multiplesAboveZero();
        periodOfOne();
        longestPeriod();
        neitherToComeNorEnded();
        blockedOneGetsTheShare();
        readyOnesStandByLevels();
        runningOneRunsOn();
        runningOneGetsTheShare();
        frontKeepsWhatItHadLeft();
        arrivalsByNumbers();
        arrivalsBehindOthers();
        noArrivalBeforeItsTick();
        shortestDevice();
        backToTheEndOfItsLevel();
        backByNumbers();
        backBehindArrivals();
        endedAtTheDevice();
        backAboveTheRunningOne();
        noneAboveAtTheSameLevel();
        noneAboveAtALowerLevel();
        endedOnesAreNotReady();
        frontOfTheLastLevel();
        frontOfThoseThatStandThere();
        frontTwice();
        usedQuantumIsNoFront();
        switchToItself();
        wholeQuantumAfterTheDevice();
        burstDoneComesFirst();
        shareBeforeQuantum();
        shareUsedUpBeforeBlocked();
        shareFarBelowZero();
        lastLevelGivesItsShare();
        shareBelowQuantum();
        noneIsRunningThen();
        idleTicks();
        finish("all boundary cases of a tick hold");
    }

    private static Counted twoLevels(int quantum0, int share0, int quantum1, int share1) {
        Counted x = new Counted();
        x.levels(2);
        x.level(0, quantum0, share0);
        x.level(1, quantum1, share1);
        return x;
    }

    private static Counted oneLevel(int quantum, int share) {
        Counted x = new Counted();
        x.level(0, quantum, share);
        return x;
    }

    // Step 1

    private static void noPeriod() {
        part("1. 'If the period isn't 0'");
        Counted x = twoLevels(1, 1, 1, 1);
        x.period(0);
        addProcess(x, 0, 5000);
        x.run(4999);
        due("came up", 0, x.all(2));
        due("level", 1, x.told(0, 1));
        due("down", 1, x.told(0, 8));
    }

    private static void multiplesAboveZero() {
        part("1. 't is a multiple of it above 0'");
        Counted x = twoLevels(1, 1, 1, 1);
        x.period(3);
        addProcess(x, 0, 50);
        int[] cameUp = {0, 0, 0, 1, 1, 1, 2, 2, 2, 3};
        for (int t = 0; t < cameUp.length; t++) {
            x.run(1);
            due("came up by the end of tick " + t, cameUp[t], x.all(2));
            // It goes down in tick 0 and in each tick in which it came up.
            due("down by the end of tick " + t, cameUp[t] + 1, x.told(0, 8));
        }
    }

    private static void periodOfOne() {
        part("1. 'a multiple of it above 0', the period being 1");
        Counted x = twoLevels(1, 1, 1, 1);
        x.period(1);
        addProcess(x, 0, 50);
        x.run(1);
        due("came up in tick 0", 0, x.all(2));
        x.run(4);
        due("came up in ticks 1 to 4", 4, x.all(2));
        due("down", 5, x.told(0, 8));
    }

    private static void longestPeriod() {
        part("1. 'a multiple of it above 0', the period being 10000");
        Counted x = twoLevels(1, 1, 1, 1);
        x.period(10000);
        addProcess(x, 0, 5000, 5000, 5000);
        x.run(10000);
        due("came up before tick 10000", 0, x.all(2));
        due("level before", 1, x.told(0, 1));
        due("down before", 1, x.told(0, 8));
        x.run(1);
        due("came up in tick 10000", 1, x.all(2));
        due("down then", 2, x.told(0, 8));
        x.run(9999);
        due("came up before tick 20000", 1, x.all(2));
        x.run(1);
        due("came up in tick 20000", 2, x.all(2));
    }

    private static void neitherToComeNorEnded() {
        part("1. 'all that are neither to come nor ended'");
        Counted x = twoLevels(1, 1, 1, 1);
        x.period(4);
        addProcess(x, 0, 2);
        addProcess(x, 20, 1);
        x.run(5);
        due("came up", 1, x.all(2));
        toldDue(x, 0, 4, 1, 2, 0, 0, 0, 2, 2, 1, 0);
        toldDue(x, 1, 0, 0, 0, 0, 0, -1, -1, 0, 0, 0);
        queueDue(x, 0);
        due("ended", 1, x.all(3));
    }

    private static void blockedOneGetsTheShare() {
        part("1. 'get level 0 and its share', one that is blocked with its share used up");
        Counted x = twoLevels(9, 2, 9, 9);
        x.period(4);
        addProcess(x, 0, 2, 3, 5);
        timelineDue(x, "00...0");
        due("has share left", 0, x.told(0, 1));
        due("running", 0, x.running());
        timelineDue(x, "0");
        due("has used it", 1, x.told(0, 1));
    }

    private static void readyOnesStandByLevels() {
        part("1. 'those ready stand behind one another as they stood by levels'");
        Counted x = new Counted();
        x.levels(6);
        x.period(8);
        addProcess(x, 0, 50);
        addProcess(x, 5, 50);
        addProcess(x, 7, 50);
        addProcess(x, 7, 50);
        addProcess(x, 8, 50);
        timelineDue(x, "00000112");
        queueDue(x, 0, 3);
        queueDue(x, 1, 2);
        queueDue(x, 2, 1);
        queueDue(x, 3);
        queueDue(x, 4);
        queueDue(x, 5, 0);
        timelineDue(x, "3");
        queueDue(x, 0, 2, 1, 0, 4);
        queueDue(x, 1, 3);
        queueDue(x, 2);
        queueDue(x, 5);
    }

    private static void runningOneRunsOn() {
        part("1. 'the running one gets level 0's quantum, too, and runs on'");
        Counted before = oneLevel(4, 100);
        before.period(3);
        addProcess(before, 0, 20);
        before.run(20);
        due("switches, one tick of the quantum being left each time", 1, before.all(0));
        Counted after = oneLevel(4, 100);
        after.period(4);
        addProcess(after, 0, 20);
        after.run(20);
        due("switches, none being left each time", 5, after.all(0));
    }

    private static void runningOneGetsTheShare() {
        part("1. 'get level 0 and its share', the running one");
        Counted before = twoLevels(9, 4, 9, 9);
        before.period(3);
        addProcess(before, 0, 20);
        before.run(20);
        due("down, one tick of the share being left each time", 0, before.told(0, 8));
        Counted after = twoLevels(9, 4, 9, 9);
        after.period(4);
        addProcess(after, 0, 20);
        after.run(20);
        due("down, none being left each time", 4, after.told(0, 8));
    }

    private static void frontKeepsWhatItHadLeft() {
        part("'(In 1. what was put to the front keeps what it had left; but not more than level 0's quantum.)'");
        // Process 0 has run 3 ticks of level 1's quantum when it is put to the front in tick 6.
        frontAfterComingUp(4, "000000111010");
        frontAfterComingUp(5, "000000111001");
        frontAfterComingUp(6, "000000111001");
        frontAfterComingUp(100, "000000111001");
    }

    private static void frontAfterComingUp(int quantum1, String want) {
        Counted x = twoLevels(2, 3, quantum1, 100);
        x.period(7);
        addProcess(x, 0, 30);
        addProcess(x, 6, 30);
        timelineDue(x, want);
        due("put to the front", 1, x.told(0, 9));
    }

    // Step 2

    private static void arrivalsByNumbers() {
        part("2. 'Those with arrival t come to the end of queue 0, by their numbers'");
        Counted x = oneLevel(1, 1);
        addProcess(x, 2, 1);
        addProcess(x, 1, 1);
        addProcess(x, 2, 1);
        addProcess(x, 2, 1);
        timelineDue(x, ".1023.");
    }

    private static void arrivalsBehindOthers() {
        part("2. 'to the end of queue 0'");
        Counted x = oneLevel(1, 9);
        addProcess(x, 0, 3);
        addProcess(x, 1, 1);
        timelineDue(x, "0010.");
    }

    private static void noArrivalBeforeItsTick() {
        part("2. 'Those with arrival t'");
        Counted x = oneLevel(1, 1);
        addProcess(x, 3, 2);
        x.run(3);
        toldDue(x, 0, 0, 0, 0, 0, 0, -1, -1, 0, 0, 0);
        x.run(1);
        toldDue(x, 0, 1, 0, 1, 0, 0, 3, -1, 1, 0, 0);
    }

    // Step 3

    private static void shortestDevice() {
        part("3. 'whose device is done with them as t begins', after 1 tick");
        Counted x = oneLevel(1, 1);
        addProcess(x, 0, 1, 1, 1);
        timelineDue(x, "0.0.");
        toldDue(x, 0, 4, 0, 2, 0, 1, 0, 3, 2, 0, 0);
    }

    private static void backToTheEndOfItsLevel() {
        part("3. 'come to the end of their level's queue'");
        Counted x = twoLevels(1, 1, 2, 50);
        addProcess(x, 0, 2, 2, 9);
        addProcess(x, 0, 20);
        addProcess(x, 0, 20);
        timelineDue(x, "0120112");
        queueDue(x, 0);
        queueDue(x, 1, 1, 0);
        timelineDue(x, "21100");
    }

    private static void backByNumbers() {
        part("3. 'by their numbers'");
        Counted x = oneLevel(1, 1);
        addProcess(x, 1, 1, 2, 1);
        addProcess(x, 0, 1, 3, 1);
        timelineDue(x, "10..01.");
    }

    private static void backBehindArrivals() {
        part("2. before 3.");
        Counted x = oneLevel(1, 1);
        addProcess(x, 0, 1, 3, 1);
        addProcess(x, 4, 1);
        timelineDue(x, "0...10.");
    }

    private static void endedAtTheDevice() {
        part("3. 'they end, if that burst was their last'");
        Counted x = oneLevel(1, 1);
        addProcess(x, 0, 1, 3);
        x.run(4);
        toldDue(x, 0, 3, 0, 1, 0, 3, 0, -1, 1, 0, 0);
        allDue(x, 1, 3, 0, 0);
        x.run(1);
        toldDue(x, 0, 4, 0, 1, 0, 3, 0, 4, 1, 0, 0);
        allDue(x, 1, 4, 0, 1);
    }

    private static void backAboveTheRunningOne() {
        part("3. before 4.");
        Counted x = twoLevels(1, 1, 9, 9);
        addProcess(x, 0, 1, 3, 1);
        addProcess(x, 0, 9);
        timelineDue(x, "011101");
        due("put to the front", 1, x.told(1, 9));
        due("switched to", 3, x.told(1, 7));
    }

    // Step 4

    private static void noneAboveAtTheSameLevel() {
        part("4. 'one is ready at a level above its own', one at its own level");
        Counted x = oneLevel(3, 100);
        addProcess(x, 0, 5);
        addProcess(x, 1, 5);
        timelineDue(x, "0001110011");
        due("put to the front", 0, x.told(0, 9));
        Counted last = twoLevels(1, 1, 3, 100);
        addProcess(last, 0, 9);
        addProcess(last, 0, 2, 1, 3);
        // Process 1 blocks at level 1 and comes back to it in tick 7, while process 0 runs there.
        timelineDue(last, "01000100011100.");
        due("put to the front at level 1", 0, last.told(0, 9));
    }

    private static void noneAboveAtALowerLevel() {
        part("4. '(with a lesser number)'");
        Counted x = twoLevels(5, 2, 5, 50);
        addProcess(x, 0, 9);
        addProcess(x, 2, 2);
        timelineDue(x, "00110");
        due("put to the front", 0, x.told(1, 9));
        due("switched to", 1, x.told(1, 7));
    }

    private static void endedOnesAreNotReady() {
        part("4. 'one is ready', others that end in 2. and 3.");
        Counted x = twoLevels(1, 1, 9, 9);
        addProcess(x, 0, 1, 3);
        addProcess(x, 0, 9);
        addProcess(x, 3);
        timelineDue(x, "011111");
        due("ended by 3.", 4, x.told(0, 6));
        due("ended by 2.", 3, x.told(2, 6));
        due("put to the front", 0, x.told(1, 9));
        due("switched to", 2, x.told(1, 7));
    }

    private static void frontOfTheLastLevel() {
        part("4. 'at a level above its own', level 4 above level 5");
        Counted x = new Counted();
        x.levels(6);
        x.level(5, 9, 99);
        addProcess(x, 0, 5, 7, 1);
        addProcess(x, 5, 30);
        timelineDue(x, "0000011111110");
        due("level of the one above", 4, x.told(0, 1));
        due("put to the front", 1, x.told(1, 9));
        queueDue(x, 5, 1);
        // It had 7 ticks of its quantum left.
        x.run(6);
        due("running after 6 of them", 1, x.running());
        x.run(1);
        due("running after 7 of them", -1, x.running());
    }

    private static void frontOfThoseThatStandThere() {
        part("4. 'it goes to the front of its level's queue'");
        Counted x = twoLevels(1, 1, 9, 100);
        for (int p = 0; p < 15; p++) {
            addProcess(x, 0, 20);
        }
        addProcess(x, 17, 1);
        // Each goes down in one tick, process 0 runs two more, and the last one comes.
        x.run(18);
        due("put to the front", 1, x.told(0, 9));
        queueDue(x, 1, 0, 1, 2, 3, 4, 5, 6, 7, 8, 9, 10, 11, 12, 13, 14);
        x.run(1);
        due("running", 0, x.running());
        queueDue(x, 1, 1, 2, 3, 4, 5, 6, 7, 8, 9, 10, 11, 12, 13, 14);
    }

    private static void frontTwice() {
        part("4. 'with what is left of its quantum', put to the front twice");
        Counted x = twoLevels(1, 1, 4, 100);
        addProcess(x, 0, 20);
        addProcess(x, 4, 1);
        addProcess(x, 0, 20);
        addProcess(x, 6, 1);
        // 2 ticks are left in tick 4, 1 in tick 6; behind these it has whole quanta.
        timelineDue(x, "02001030222200002");
        due("put to the front", 2, x.told(0, 9));
    }

    private static void usedQuantumIsNoFront() {
        part("4. 'If one is running', none as the quantum was used up in the tick before");
        Counted x = twoLevels(1, 1, 2, 100);
        addProcess(x, 0, 20);
        addProcess(x, 0, 20);
        addProcess(x, 4, 1);
        timelineDue(x, "010021100");
        due("put to the front", 0, x.told(0, 9));
    }

    // Step 5

    private static void switchToItself() {
        part("5. '(a SWITCH)', to the one that ran in the tick before");
        Counted x = oneLevel(1, 1);
        addProcess(x, 0, 3);
        x.run(5);
        due("switches", 3, x.all(0));
        due("switched to", 3, x.told(0, 7));
        due("the last one", 32, x.switched(2));
    }

    private static void wholeQuantumAfterTheDevice() {
        part("5. 'and did not run since, else with its level's quantum'");
        Counted x = twoLevels(1, 1, 4, 100);
        addProcess(x, 0, 4, 1, 9);
        addProcess(x, 3, 1);
        // Put to the front in tick 3, it blocks in tick 4 with 1 tick of its quantum left.
        timelineDue(x, "00010.000");
        due("running with 1 tick left", 0, x.running());
        x.run(1);
        due("running with none left", -1, x.running());
        due("put to the front", 1, x.told(0, 9));
    }

    // Step 6

    private static void burstDoneComesFirst() {
        part("6. 'If the burst is done', the share and the quantum being used up too");
        Counted x = twoLevels(3, 3, 9, 9);
        addProcess(x, 0, 3, 1, 1);
        addProcess(x, 0, 3);
        x.run(3);
        toldDue(x, 0, 3, 0, 3, 0, 0, 0, -1, 1, 0, 0);
        x.run(3);
        toldDue(x, 1, 4, 0, 3, 3, 0, 3, 6, 1, 0, 0);
    }

    private static void shareBeforeQuantum() {
        part("6. 'Else, if the share is not above 0', the quantum being used up too");
        Counted x = twoLevels(2, 2, 9, 9);
        addProcess(x, 0, 9);
        x.run(1);
        due("level with 1 tick left", 0, x.told(0, 1));
        x.run(1);
        due("level with none left", 1, x.told(0, 1));
        due("down", 1, x.told(0, 8));
        queueDue(x, 0);
        queueDue(x, 1, 0);
    }

    private static void shareUsedUpBeforeBlocked() {
        part("6. '(it may be used up by the last tick before it was blocked)'");
        Counted x = twoLevels(9, 3, 9, 9);
        addProcess(x, 0, 3, 1, 2);
        x.run(4);
        due("level as it comes back", 0, x.told(0, 1));
        x.run(1);
        due("level a tick later", 1, x.told(0, 1));
        due("down", 1, x.told(0, 8));
    }

    private static void shareFarBelowZero() {
        part("6. 'if the share is not above 0', far below it");
        Counted x = twoLevels(9, 1, 9, 9);
        addProcess(x, 0, 1, 1, 1, 1, 1, 1, 2);
        timelineDue(x, "0.0.0.");
        due("level", 0, x.told(0, 1));
        timelineDue(x, "0");
        due("level with a longer burst", 1, x.told(0, 1));
        timelineDue(x, "0.");
        toldDue(x, 0, 4, 1, 5, 0, 3, 0, 8, 5, 1, 0);
    }

    private static void lastLevelGivesItsShare() {
        part("6. '(of its own, if that is the last one), with that level's share'");
        Counted one = oneLevel(3, 5);
        addProcess(one, 0, 20);
        addProcess(one, 0, 20);
        timelineDue(one, "00011100110001110011");
        due("level", 0, one.told(0, 1));
        due("down", 0, one.told(0, 8));
        Counted six = new Counted();
        six.levels(6);
        addProcess(six, 0, 20);
        int[] level = {1, 2, 3, 4, 5, 5, 5};
        for (int t = 0; t < level.length; t++) {
            six.run(1);
            due("level after tick " + t, level[t], six.told(0, 1));
            due("down after tick " + t, level[t], six.told(0, 8));
        }
    }

    private static void shareBelowQuantum() {
        part("6. the share used up before the quantum is");
        Counted x = twoLevels(9, 2, 9, 9);
        addProcess(x, 0, 20);
        x.run(2);
        due("level", 1, x.told(0, 1));
        due("running", -1, x.running());
        x.run(8);
        due("running with 1 tick of level 1's quantum left", 0, x.running());
        x.run(1);
        due("running with none left", -1, x.running());
        due("switches", 2, x.all(0));
    }

    private static void noneIsRunningThen() {
        part("6. '(Then none is running.)'");
        Counted quantum = oneLevel(1, 9);
        addProcess(quantum, 0, 2, 1);
        quantum.run(1);
        due("running, its quantum used", -1, quantum.running());
        queueDue(quantum, 0, 0);
        quantum.run(1);
        due("running, blocked", -1, quantum.running());
        queueDue(quantum, 0);
        Counted share = oneLevel(9, 1);
        addProcess(share, 0, 2);
        share.run(1);
        due("running, its share used", -1, share.running());
        queueDue(share, 0, 0);
        share.run(1);
        due("running, ended", -1, share.running());
        queueDue(share, 0);
    }

    private static void idleTicks() {
        part("6. 'If none was running, the tick is IDLE'");
        Counted x = oneLevel(1, 1);
        addProcess(x, 1, 1, 2, 1);
        addProcess(x, 0);
        int[] idle = {1, 0, 1, 1, 0, 1, 1};
        for (int t = 0; t < idle.length; t++) {
            due("idle in tick " + t, idle[t], x.run(1));
        }
        due("all of them", 5, x.all(1));
        Counted six = new Counted();
        six.levels(6);
        due("idle with six empty queues", 9, six.run(9));
        six.restart();
        addProcess(six, 2, 7);
        due("idle but for the last queue's one", 3, six.run(10));
    }
}
