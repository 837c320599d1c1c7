/** Each promise by runs that were worked out by hand: ordinary inputs, edges, wrong inputs. */
public final class PromiseTest extends Checks {
    public static void main(String[] args) {
        newObject();
        levels();
        levelsForgetProcesses();
        level();
        period();
        process();
        burst();
        run();
        runLimits();
        restart();
        time();
        told();
        toldWrong();
        running();
        queued();
        all();
        switched();
        quantumEnds();
        shareEnds();
        frontKeepsQuantum();
        blockedKeepsLevelAndShare();
        shareUsedUpBeforeBlocked();
        arrivalsBeforeThoseThatComeBack();
        endedByTheDevice();
        runningOneComesUp();
        readyOnesComeUpInOrder();
        blockedOnesComeUp();
        frontQuantumAfterComingUp();
        frontQuantumIsCutWhenComingUp();
        frontQuantumIsUsedOnce();
        frontOfLongerQueue();
        fullHouse();
        finish("all promises hold");
    }

    // Promise 1

    private static void newObject() {
        part("1 new object");
        Counted x = new Counted();
        due("NONE", -1, FeedbackQueues.NONE);
        due("time", 0, x.time());
        due("running", -1, x.running());
        due("queued(0, 0)", -1, x.queued(0, 0));
        refused("queued(1, 0)", INDEX, () -> x.queued(1, 0));
        refused("told(0, 0)", INDEX, () -> x.told(0, 0));
        refused("switched(0)", INDEX, () -> x.switched(0));
        allDue(x, 0, 0, 0, 0);
        due("first process", 0, addProcess(x, 0, 2));
        due("second process", 1, addProcess(x, 0, 2));
        timelineDue(x, "0101");
        due("idle", 30000, x.run(30000));
        due("came up", 0, x.all(2));
    }

    // Promise 2

    private static void levels() {
        part("2 levels");
        Counted x = new Counted();
        for (int n : new int[] {0, 7, -1, Integer.MIN_VALUE, Integer.MAX_VALUE}) {
            refused("levels(" + n + ")", ARGUMENT, () -> x.levels(n));
        }
        for (int n = 1; n <= 6; n++) {
            x.levels(n);
            due("last queue of " + n, -1, x.queued(n - 1, 0));
            int above = n;
            refused("one queue more than " + n, INDEX, () -> x.queued(above, 0));
        }
        x.level(0, 7, 9);
        x.level(1, 7, 9);
        x.levels(2);
        addProcess(x, 0, 9);
        addProcess(x, 0, 9);
        // Quantum 1 and share 1 again: each goes down after one tick, then they take turns.
        timelineDue(x, "010101");
        due("level", 1, x.told(0, 1));
        due("down", 1, x.told(0, 8));
    }

    private static void levelsForgetProcesses() {
        part("2 levels forget");
        Counted x = new Counted();
        x.period(4);
        addProcess(x, 0, 3, 5, 2);
        addProcess(x, 0, 3);
        x.run(6);
        refused("levels(9)", ARGUMENT, () -> x.levels(9));
        due("time stays when refused", 6, x.time());
        due("process stays when refused", 3, x.told(1, 2));
        x.levels(1);
        due("time", 0, x.time());
        due("running", -1, x.running());
        due("queued", -1, x.queued(0, 0));
        refused("told(0, 0)", INDEX, () -> x.told(0, 0));
        refused("burst(0, 1)", INDEX, () -> x.burst(0, 1));
        refused("switched(0)", INDEX, () -> x.switched(0));
        allDue(x, 0, 0, 0, 0);
        due("first process again", 0, x.process(2));
        toldDue(x, 0, 0, 0, 0, 0, 0, -1, -1, 0, 0, 0);
        due("bursts are gone too", 1, x.burst(0, 1));
        timelineDue(x, "..0.");
        x.run(9);
        due("the period stays", 3, x.all(2));
    }

    // Promise 3

    private static void level() {
        part("3 level");
        Counted x = new Counted();
        x.levels(2);
        levelRefused(x, INDEX, -1, 1, 1);
        levelRefused(x, INDEX, 2, 1, 1);
        levelRefused(x, INDEX, 6, 1, 1);
        levelRefused(x, INDEX, 2, 0, 0);
        levelRefused(x, ARGUMENT, 0, 0, 1);
        levelRefused(x, ARGUMENT, 0, 101, 1);
        levelRefused(x, ARGUMENT, 0, 1, 0);
        levelRefused(x, ARGUMENT, 0, 1, 1001);
        levelRefused(x, ARGUMENT, 1, -5, -5);
        x.level(0, 2, 4);
        levelRefused(x, ARGUMENT, 0, 101, 5);
        levelRefused(x, ARGUMENT, 0, 5, 1001);
        addProcess(x, 0, 9);
        addProcess(x, 0, 9);
        timelineDue(x, "001100110101");
        levelRefused(x, STATE, 0, 1, 1);
        levelRefused(x, ARGUMENT, 0, 0, 1);
        levelRefused(x, INDEX, 2, 1, 1);
        x.restart();
        x.level(0, 100, 1000);
        timelineDue(x, "000000000111111111");
        due("not down", 0, x.told(0, 1));
        largestLevel();
    }

    private static void largestLevel() {
        Counted x = new Counted();
        x.levels(2);
        x.level(0, 100, 1000);
        addProcess(x, 0, 5000);
        x.run(99);
        due("running at 99", 0, x.running());
        x.run(1);
        due("quantum done at 100", -1, x.running());
        x.run(899);
        due("level at 999", 0, x.told(0, 1));
        x.run(1);
        due("level at 1000", 1, x.told(0, 1));
    }

    private static void levelRefused(Counted x, String by, int level, int quantum, int share) {
        refused("level(" + level + ", " + quantum + ", " + share + ")", by, () -> x.level(level, quantum, share));
    }

    // Promise 4

    private static void period() {
        part("4 period");
        Counted x = new Counted();
        periodRefused(x, ARGUMENT, -1);
        periodRefused(x, ARGUMENT, 10001);
        x.period(1);
        periodRefused(x, ARGUMENT, 10001);
        x.run(5);
        due("not at tick 0", 4, x.all(2));
        periodRefused(x, STATE, 3);
        periodRefused(x, STATE, 0);
        periodRefused(x, ARGUMENT, -1);
        x.restart();
        x.run(5);
        due("stays over a restart", 4, x.all(2));
        x.restart();
        x.period(10000);
        x.run(10000);
        due("before tick 10000", 0, x.all(2));
        x.run(1);
        due("in tick 10000", 1, x.all(2));
        x.restart();
        x.period(0);
        x.run(100);
        due("never", 0, x.all(2));
    }

    private static void periodRefused(Counted x, String by, int period) {
        refused("period(" + period + ")", by, () -> x.period(period));
    }

    // Promise 5

    private static void process() {
        part("5 process");
        Counted x = new Counted();
        refused("process(-1)", ARGUMENT, () -> x.process(-1));
        refused("process(20001)", ARGUMENT, () -> x.process(20001));
        for (int i = 0; i < 16; i++) {
            due("process " + i, i, x.process(i == 0 ? 20000 : i));
        }
        due("a 17th", -1, x.process(0));
        due("a 17th again", -1, x.process(0));
        refused("process(-1) of 16", ARGUMENT, () -> x.process(-1));
        refused("told(16, 0)", INDEX, () -> x.told(16, 0));
        x.burst(0, 1);
        x.run(1);
        refused("process(0) of 16 at time 1", STATE, () -> x.process(0));
        refused("process(-1) at time 1", ARGUMENT, () -> x.process(-1));
        x.run(19999);
        due("still to come", 0, x.told(0, 0));
        x.run(1);
        due("came and ended", 4, x.told(0, 0));
        due("first ran", 20000, x.told(0, 5));
        x.restart();
        due("a 17th after restart", -1, x.process(0));
        x.levels(1);
        due("first again", 0, x.process(0));
    }

    // Promise 6

    private static void burst() {
        part("6 burst");
        Counted x = new Counted();
        refused("no process", INDEX, () -> x.burst(0, 1));
        x.process(0);
        x.process(0);
        refused("burst(-1, 1)", INDEX, () -> x.burst(-1, 1));
        refused("burst(2, 1)", INDEX, () -> x.burst(2, 1));
        refused("burst(2, 0)", INDEX, () -> x.burst(2, 0));
        refused("burst(0, 0)", ARGUMENT, () -> x.burst(0, 0));
        refused("burst(0, 5001)", ARGUMENT, () -> x.burst(0, 5001));
        for (int i = 1; i <= 12; i++) {
            due("burst " + i, i, x.burst(0, i == 12 ? 5000 : 1));
        }
        due("a 13th", -1, x.burst(0, 1));
        refused("a 13th of 0 ticks", ARGUMENT, () -> x.burst(0, 0));
        due("the other one's first", 1, x.burst(1, 2));
        x.run(1);
        refused("burst(1, 1) at time 1", STATE, () -> x.burst(1, 1));
        refused("burst(0, 1) of 12 at time 1", STATE, () -> x.burst(0, 1));
        refused("burst(1, 0) at time 1", ARGUMENT, () -> x.burst(1, 0));
        refused("burst(2, 1) at time 1", INDEX, () -> x.burst(2, 1));
        x.run(6000);
        due("on the processor", 6, x.told(0, 2));
        due("blocked", 5005, x.told(0, 4));
        due("the other one's ticks", 2, x.told(1, 2));
        x.restart();
        due("one more after restart", 2, x.burst(1, 3));
    }

    // Promise 7

    private static void run() {
        part("7 run");
        Counted x = new Counted();
        refused("run(-1)", ARGUMENT, () -> x.run(-1));
        refused("run(30001)", ARGUMENT, () -> x.run(30001));
        addProcess(x, 3, 2, 4, 1);
        due("run(0)", 0, x.run(0));
        due("told at time 0 still", 1, addProcess(x, 0));
        due("run(2)", 2, x.run(2));
        due("run(3)", 1, x.run(3));
        refused("run(-1) at time 5", ARGUMENT, () -> x.run(-1));
        due("time after that", 5, x.time());
        due("run(20)", 19, x.run(20));
        due("time", 25, x.time());
    }

    private static void runLimits() {
        part("7 run limits");
        Counted x = new Counted();
        due("30000", 30000, x.run(30000));
        due("60000", 30000, x.run(30000));
        due("90000", 30000, x.run(30000));
        refused("run(10001)", ARGUMENT, () -> x.run(10001));
        due("time when refused", 90000, x.time());
        due("idle when refused", 90000, x.all(1));
        due("run(10000)", 10000, x.run(10000));
        due("time", 100000, x.time());
        refused("run(1)", ARGUMENT, () -> x.run(1));
        refused("run of the greatest", ARGUMENT, () -> x.run(Integer.MAX_VALUE));
        due("run(0)", 0, x.run(0));
        x.restart();
        due("after restart", 30000, x.run(30000));
    }

    // Promise 8

    private static void restart() {
        part("8 restart");
        Counted x = mixed();
        String first = timeline(x, 25);
        String state = stateOf(x);
        x.restart();
        due("time", 0, x.time());
        due("running", -1, x.running());
        for (int level = 0; level < 2; level++) {
            due("queue " + level, -1, x.queued(level, 0));
        }
        for (int i = 0; i < 3; i++) {
            toldDue(x, i, 0, 0, 0, 0, 0, -1, -1, 0, 0, 0);
        }
        allDue(x, 0, 0, 0, 0);
        refused("switched(0)", INDEX, () -> x.switched(0));
        same("timeline", first, timeline(x, 25));
        same("state", state, stateOf(x));
        restartMidway(first, state);
    }

    /** With one running, one blocked and one ready. */
    private static void restartMidway(String first, String state) {
        Counted x = mixed();
        x.run(7);
        x.restart();
        same("timeline after a stop midway", first, timeline(x, 25));
        same("state after a stop midway", state, stateOf(x));
    }

    private static Counted mixed() {
        Counted x = new Counted();
        x.levels(2);
        x.level(0, 2, 3);
        x.level(1, 4, 6);
        x.period(9);
        addProcess(x, 0, 12);
        addProcess(x, 1, 2, 3, 2, 3);
        addProcess(x, 6, 4);
        return x;
    }

    // Promise 9

    private static void time() {
        part("9 time");
        Counted x = new Counted();
        due("at first", 0, x.time());
        x.run(0);
        due("after none", 0, x.time());
        x.run(7);
        x.run(5);
        due("after 12", 12, x.time());
        x.restart();
        due("after restart", 0, x.time());
        x.run(3);
        x.levels(1);
        due("after levels", 0, x.time());
    }

    // Promise 10

    private static void told() {
        part("10 told");
        Counted x = new Counted();
        x.levels(2);
        x.level(0, 5, 2);
        x.level(1, 6, 100);
        addProcess(x, 0, 10);
        addProcess(x, 6, 1, 2);
        addProcess(x, 1, 10);
        addProcess(x, 4);
        toldDue(x, 0, 0, 0, 0, 0, 0, -1, -1, 0, 0, 0);
        timelineDue(x, "002200");
        toldDue(x, 0, 2, 1, 4, 2, 0, 0, -1, 2, 1, 0);
        toldDue(x, 1, 0, 0, 0, 0, 0, -1, -1, 0, 0, 0);
        toldDue(x, 2, 1, 1, 2, 3, 0, 2, -1, 1, 1, 0);
        toldDue(x, 3, 4, 0, 0, 0, 0, -1, 4, 0, 0, 0);
        timelineDue(x, "1");
        toldDue(x, 0, 1, 1, 4, 3, 0, 0, -1, 2, 1, 1);
        toldDue(x, 1, 3, 0, 1, 0, 0, 6, -1, 1, 0, 0);
        timelineDue(x, "00");
        toldDue(x, 0, 2, 1, 6, 3, 0, 0, -1, 3, 1, 1);
        toldDue(x, 1, 3, 0, 1, 0, 2, 6, -1, 1, 0, 0);
        timelineDue(x, "00");
        toldDue(x, 1, 4, 0, 1, 0, 2, 6, 9, 1, 0, 0);
        timelineDue(x, "2222220022.");
        toldDue(x, 0, 4, 1, 10, 9, 0, 0, 19, 4, 1, 1);
        toldDue(x, 2, 4, 1, 10, 10, 0, 2, 21, 3, 1, 0);
    }

    private static void toldWrong() {
        part("10 told, wrong");
        Counted x = new Counted();
        refused("told(0, 0)", INDEX, () -> x.told(0, 0));
        x.process(0);
        refused("told(-1, 0)", INDEX, () -> x.told(-1, 0));
        refused("told(1, 0)", INDEX, () -> x.told(1, 0));
        refused("told(1, 10)", INDEX, () -> x.told(1, 10));
        refused("told(0, 10)", ARGUMENT, () -> x.told(0, 10));
        refused("told(0, -1)", ARGUMENT, () -> x.told(0, -1));
    }

    // Promise 11

    private static void running() {
        part("11 running");
        Counted x = new Counted();
        x.level(0, 2, 10);
        addProcess(x, 1, 3);
        addProcess(x, 1, 3);
        int[] after = {-1, 0, -1, 1, -1, -1, -1, -1};
        for (int i = 0; i < after.length; i++) {
            x.run(1);
            due("after tick " + i, after[i], x.running());
        }
    }

    // Promise 12

    private static void queued() {
        part("12 queued");
        Counted x = new Counted();
        x.levels(2);
        x.level(0, 3, 3);
        for (int i = 0; i < 16; i++) {
            addProcess(x, 0, 3);
        }
        due("to come is not ready", -1, x.queued(0, 0));
        x.run(1);
        for (int k = 0; k < 15; k++) {
            due("place " + k, k + 1, x.queued(0, k));
        }
        due("place 15", -1, x.queued(0, 15));
        due("place 16", -1, x.queued(0, 16));
        due("greatest place", -1, x.queued(0, Integer.MAX_VALUE));
        due("place -1", -1, x.queued(0, -1));
        due("least place", -1, x.queued(0, Integer.MIN_VALUE));
        due("level 1", -1, x.queued(1, 0));
        refused("queued(2, 0)", INDEX, () -> x.queued(2, 0));
        refused("queued(-1, 0)", INDEX, () -> x.queued(-1, 0));
        refused("queued(2, -1)", INDEX, () -> x.queued(2, -1));
    }

    // Promise 13

    private static void all() {
        part("13 all");
        Counted x = new Counted();
        x.period(4);
        addProcess(x, 2, 2, 3);
        addProcess(x, 2);
        addProcess(x, 9, 1);
        x.run(3);
        allDue(x, 1, 2, 0, 1);
        x.run(9);
        allDue(x, 3, 9, 2, 3);
        refused("all(4)", ARGUMENT, () -> x.all(4));
        refused("all(-1)", ARGUMENT, () -> x.all(-1));
    }

    // Promise 14

    private static void switched() {
        part("14 switched");
        Counted x = new Counted();
        addProcess(x, 3, 300);
        addProcess(x, 3, 300);
        x.run(3);
        refused("none yet", INDEX, () -> x.switched(0));
        x.run(2);
        due("switch 0", 48, x.switched(0));
        due("switch 1", 65, x.switched(1));
        refused("switch 2", INDEX, () -> x.switched(2));
        refused("switch -1", INDEX, () -> x.switched(-1));
        x.run(500);
        due("all switches", 502, x.all(0));
        due("switch 0 still", 48, x.switched(0));
        due("switch 399", 16 * 402 + 1, x.switched(399));
        refused("switch 400", INDEX, () -> x.switched(400));
        refused("switch 501", INDEX, () -> x.switched(501));
        x.restart();
        refused("none after restart", INDEX, () -> x.switched(0));
        x.run(4);
        refused("one after restart", INDEX, () -> x.switched(1));
    }

    // The steps of a tick

    private static void quantumEnds() {
        part("step 6, quantum");
        Counted x = new Counted();
        x.level(0, 2, 1000);
        addProcess(x, 0, 5);
        addProcess(x, 0, 3);
        timelineDue(x, "00110010.");
        due("switches", 5, x.all(0));
        due("ended 1", 7, x.told(1, 6));
        due("ended 0", 8, x.told(0, 6));
    }

    private static void shareEnds() {
        part("step 6, share");
        Counted x = new Counted();
        x.levels(3);
        x.level(0, 2, 3);
        x.level(1, 4, 4);
        x.level(2, 8, 5);
        addProcess(x, 0, 13);
        int[] levelAfter = {0, 0, 1, 1, 1, 1, 2, 2, 2, 2, 2, 2, 2};
        int[] runningAfter = {0, -1, -1, 0, 0, 0, -1, 0, 0, 0, 0, -1, -1};
        for (int i = 0; i < 13; i++) {
            x.run(1);
            due("level after tick " + i, levelAfter[i], x.told(0, 1));
            due("running after tick " + i, runningAfter[i], x.running());
        }
        due("down", 2, x.told(0, 8));
        due("ended", 13, x.told(0, 6));
        due("level of the ended", 2, x.told(0, 1));
    }

    private static void frontKeepsQuantum() {
        part("step 4");
        Counted x = new Counted();
        x.levels(2);
        x.level(0, 5, 2);
        x.level(1, 6, 100);
        addProcess(x, 0, 10);
        addProcess(x, 6, 2);
        addProcess(x, 1, 10);
        timelineDue(x, "0022001");
        due("running", 1, x.running());
        due("front", 0, x.queued(1, 0));
        due("behind it", 2, x.queued(1, 1));
        timelineDue(x, "100002222220022");
        due("to the front", 1, x.told(0, 9));
        due("never to the front", 0, x.told(2, 9));
    }

    private static void blockedKeepsLevelAndShare() {
        part("step 6, blocked");
        Counted x = new Counted();
        x.levels(2);
        x.level(0, 10, 3);
        x.level(1, 10, 10);
        addProcess(x, 0, 2, 1, 2, 2, 1);
        timelineDue(x, "00.0");
        due("share went on, so down", 1, x.told(0, 1));
        timelineDue(x, "0");
        due("blocked", 3, x.told(0, 0));
        due("keeps its level", 1, x.told(0, 1));
        timelineDue(x, "..0.");
        due("ended", 8, x.told(0, 6));
        due("level", 1, x.told(0, 1));
        due("blocked for", 3, x.told(0, 4));
    }

    private static void shareUsedUpBeforeBlocked() {
        part("step 6, share used up");
        Counted x = new Counted();
        x.levels(2);
        x.level(0, 10, 3);
        x.level(1, 10, 10);
        addProcess(x, 0, 3, 1, 1, 1, 2);
        timelineDue(x, "000.0.");
        due("level as long as bursts are done", 0, x.told(0, 1));
        due("down", 0, x.told(0, 8));
        timelineDue(x, "0");
        due("level then", 1, x.told(0, 1));
        due("down then", 1, x.told(0, 8));
        timelineDue(x, "0.");
        due("ended", 8, x.told(0, 6));
    }

    private static void arrivalsBeforeThoseThatComeBack() {
        part("steps 2 and 3");
        Counted x = new Counted();
        addProcess(x, 1, 1, 2, 1);
        addProcess(x, 0, 1, 3, 1);
        addProcess(x, 4, 1);
        addProcess(x, 4, 1);
        timelineDue(x, "10..2301.");
    }

    private static void endedByTheDevice() {
        part("step 3, ended");
        Counted x = new Counted();
        addProcess(x, 0, 1, 3);
        x.run(4);
        due("blocked", 3, x.told(0, 0));
        due("not ended", -1, x.told(0, 6));
        x.run(1);
        due("ended", 4, x.told(0, 0));
        due("ended at", 4, x.told(0, 6));
        due("idle", 4, x.all(1));
    }

    private static void runningOneComesUp() {
        part("step 1, running");
        Counted x = new Counted();
        x.levels(2);
        x.level(0, 3, 4);
        x.level(1, 8, 50);
        x.period(10);
        addProcess(x, 0, 30);
        x.run(10);
        due("level", 1, x.told(0, 1));
        x.run(1);
        due("level 0", 0, x.told(0, 1));
        due("runs on", 0, x.running());
        due("switches", 3, x.all(0));
        x.run(1);
        due("has level 0's quantum", 0, x.running());
        x.run(1);
        due("and no more of it", -1, x.running());
        due("at level 0 still", 0, x.told(0, 1));
        x.run(1);
        due("had level 0's share", 1, x.told(0, 1));
        due("down", 2, x.told(0, 8));
        due("came up", 1, x.all(2));
    }

    private static void readyOnesComeUpInOrder() {
        part("step 1, ready");
        Counted x = new Counted();
        x.levels(3);
        x.period(5);
        addProcess(x, 0, 20);
        addProcess(x, 0, 20);
        addProcess(x, 0, 20);
        addProcess(x, 5, 20);
        timelineDue(x, "01201");
        due("level 1", 2, x.queued(1, 0));
        due("level 2", 0, x.queued(2, 0));
        due("behind it", 1, x.queued(2, 1));
        timelineDue(x, "2");
        due("place 0", 0, x.queued(0, 0));
        due("place 1", 1, x.queued(0, 1));
        due("place 2", 3, x.queued(0, 2));
        due("place 3", -1, x.queued(0, 3));
        due("level 1 then", 2, x.queued(1, 0));
        due("level 2 then", -1, x.queued(2, 0));
    }

    private static void blockedOnesComeUp() {
        part("step 1, blocked");
        Counted x = new Counted();
        x.levels(2);
        x.level(0, 4, 2);
        x.level(1, 4, 9);
        x.period(6);
        addProcess(x, 0, 3, 5, 4);
        addProcess(x, 20, 1);
        x.run(6);
        due("blocked at level 1", 1, x.told(0, 1));
        x.run(1);
        due("blocked at level 0", 0, x.told(0, 1));
        due("blocked", 3, x.told(0, 0));
        due("to come at level 0", 0, x.told(1, 1));
        x.run(2);
        due("has level 0's share", 0, x.told(0, 1));
        x.run(1);
        due("and no more of it", 1, x.told(0, 1));
        x.run(4);
        due("ended", 12, x.told(0, 6));
        due("the ended one stays", 1, x.told(0, 1));
    }

    private static void frontQuantumAfterComingUp() {
        part("step 1, put to the front");
        Counted x = new Counted();
        x.levels(2);
        x.level(0, 5, 3);
        x.level(1, 4, 100);
        x.period(7);
        addProcess(x, 0, 30);
        addProcess(x, 6, 30);
        timelineDue(x, "0000001111");
        due("down again", 1, x.told(1, 1));
        timelineDue(x, "0");
        due("had 1 left", -1, x.running());
        due("stands at level 0", 0, x.queued(0, 0));
    }

    private static void frontQuantumIsCutWhenComingUp() {
        part("step 1, not more than level 0's");
        Counted x = new Counted();
        x.levels(2);
        x.level(0, 2, 3);
        x.level(1, 9, 100);
        x.period(7);
        addProcess(x, 0, 30);
        addProcess(x, 6, 30);
        timelineDue(x, "000000111");
        due("front", 0, x.queued(0, 0));
        timelineDue(x, "00");
        due("had 2 left", -1, x.running());
        due("level", 0, x.told(0, 1));
        due("first", 1, x.queued(0, 0));
        due("second", 0, x.queued(0, 1));
    }

    private static void frontQuantumIsUsedOnce() {
        part("step 5");
        Counted x = new Counted();
        x.levels(2);
        x.level(0, 1, 1);
        x.level(1, 3, 100);
        addProcess(x, 0, 20);
        addProcess(x, 0, 20);
        addProcess(x, 3, 1);
        // Process 0 has 2 ticks left when 2 comes; after these it has whole quanta again.
        timelineDue(x, "010200111000111");
    }

    private static void frontOfLongerQueue() {
        part("step 4, longer queue");
        Counted x = new Counted();
        x.levels(2);
        x.level(0, 2, 2);
        x.level(1, 6, 100);
        addProcess(x, 0, 3, 3, 9);
        addProcess(x, 0, 20);
        addProcess(x, 0, 20);
        addProcess(x, 11, 1);
        // Process 0 comes back behind 2 while 1 runs, then 3 comes and 1 goes to the front.
        timelineDue(x, "001122011113");
        due("place 0", 1, x.queued(1, 0));
        due("place 1", 2, x.queued(1, 1));
        due("place 2", 0, x.queued(1, 2));
        due("place 3", -1, x.queued(1, 3));
        timelineDue(x, "112222220000001");
    }

    private static void fullHouse() {
        part("all levels, all processes");
        Counted x = new Counted();
        x.levels(6);
        x.period(90);
        for (int i = 0; i < 16; i++) {
            addProcess(x, 0, 8);
        }
        x.run(90);
        // 5 times 16 ticks took all down to level 5, where the first 10 ran once more.
        for (int k = 0; k < 16; k++) {
            due("place " + k + " at level 5", (k + 10) % 16, x.queued(5, k));
            due("downs of " + k, 5, x.told(k, 8));
        }
        x.run(1);
        due("went down from level 0", 10, x.queued(1, 0));
        for (int k = 0; k < 15; k++) {
            due("place " + k + " at level 0", (k + 11) % 16, x.queued(0, k));
        }
        due("idle", 1000 - 37, x.run(1000));
        allDue(x, 128, 1000 - 37, 12, 16);
    }
}
