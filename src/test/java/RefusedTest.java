import java.util.function.Supplier;

/**
 * 'Methods throw what their comments name, the one named first when several would do; a call that
 * throws, or answers NONE, changes nothing.' Each such call is made on one of two objects that were
 * told the same; both must then go on alike.
 */
public final class RefusedTest extends Checks {
    private static final String NONE = "-1";

    /** A call, answered as a text, or the exception's name. */
    private interface Call {
        String answer(Counted x);
    }

    public static void main(String[] args) {
        worldsAreAsNamed();
        refusedAtAnyTime("new", Counted::new, 1, 0);
        refusedAtAnyTime("told", RefusedTest::toldWorld, 3, 3);
        refusedAtAnyTime("midway", RefusedTest::midway, 3, 5);
        refusedAtAnyTime("all ended", RefusedTest::allEnded, 3, 3);
        refusedBehindTimeZero("midway", RefusedTest::midway);
        refusedBehindTimeZero("all ended", RefusedTest::allEnded);
        refusedBehindTimeZero("at the last time", RefusedTest::atTheLastTime);
        refusedForTheTime();
        refusedWhenFull();
        severalWouldDo();
        askingChangesNothing("new", Counted::new);
        askingChangesNothing("told", RefusedTest::toldWorld);
        askingChangesNothing("midway", RefusedTest::midway);
        finish("refused calls change nothing");
    }

    // The objects that calls are refused on

    private static Counted toldWorld() {
        Counted x = new Counted();
        x.levels(3);
        x.level(0, 2, 3);
        x.level(1, 3, 5);
        x.level(2, 4, 7);
        x.period(17);
        addProcess(x, 0, 9, 2, 4);
        addProcess(x, 1, 3, 3, 5);
        addProcess(x, 4, 6);
        return x;
    }

    private static Counted midway() {
        Counted x = new Counted();
        x.levels(3);
        x.level(0, 2, 3);
        x.level(1, 9, 20);
        x.level(2, 4, 7);
        x.period(17);
        addProcess(x, 0, 12);
        addProcess(x, 1, 1, 9, 5);
        addProcess(x, 3);
        addProcess(x, 9, 5, 1, 2);
        addProcess(x, 14, 3);
        x.run(10);
        return x;
    }

    private static Counted allEnded() {
        Counted x = toldWorld();
        x.run(60);
        return x;
    }

    private static Counted atTheLastTime() {
        Counted x = toldWorld();
        for (int i = 0; i < 3; i++) {
            x.run(30000);
        }
        x.run(10000);
        return x;
    }

    private static Counted fullHouse() {
        Counted x = new Counted();
        for (int p = 0; p < 16; p++) {
            addProcess(x, p / 4, 1 + p % 3);
        }
        return x;
    }

    private static Counted fullBursts() {
        Counted x = toldWorld();
        for (int i = 3; i < 12; i++) {
            x.burst(1, i);
        }
        return x;
    }

    private static void worldsAreAsNamed() {
        part("the objects that calls are refused on");
        Counted x = midway();
        due("ready", 1, x.told(0, 0));
        due("put to the front", 1, x.told(0, 9));
        due("blocked", 3, x.told(1, 0));
        due("ended", 4, x.told(2, 0));
        due("running", 2, x.told(3, 0));
        due("to come", 0, x.told(4, 0));
        due("all ended", 3, allEnded().all(3));
        due("the last time", 100000, atTheLastTime().time());
    }

    // What is refused

    private static void refusedAtAnyTime(String name, Supplier<Counted> world, int levels, int processes) {
        part("'changes nothing', " + name);
        for (int n : new int[] {0, 7, -1}) {
            changesNothing("levels(" + n + ")", ARGUMENT, world, x -> answerOf(() -> x.levels(n)));
        }
        for (int level : new int[] {-1, levels, 6}) {
            changesNothing("level(" + level + ", 9, 9)", INDEX, world, x -> answerOf(() -> x.level(level, 9, 9)));
            changesNothing("queued(" + level + ", 0)", INDEX, world, x -> answerOf(() -> x.queued(level, 0)));
        }
        for (int quantum : new int[] {0, 101}) {
            changesNothing("level(0, " + quantum + ", 9)", ARGUMENT, world, x -> answerOf(() -> x.level(0, quantum, 9)));
        }
        for (int share : new int[] {0, 1001}) {
            changesNothing("level(0, 9, " + share + ")", ARGUMENT, world, x -> answerOf(() -> x.level(0, 9, share)));
        }
        for (int period : new int[] {-1, 10001}) {
            changesNothing("period(" + period + ")", ARGUMENT, world, x -> answerOf(() -> x.period(period)));
        }
        for (int arrival : new int[] {-1, 20001}) {
            changesNothing("process(" + arrival + ")", ARGUMENT, world, x -> answerOf(() -> x.process(arrival)));
        }
        for (int process : new int[] {-1, processes, 16}) {
            changesNothing("burst(" + process + ", 9)", INDEX, world, x -> answerOf(() -> x.burst(process, 9)));
            changesNothing("told(" + process + ", 0)", INDEX, world, x -> answerOf(() -> x.told(process, 0)));
        }
        if (processes > 0) {
            for (int ticks : new int[] {0, 5001}) {
                changesNothing("burst(0, " + ticks + ")", ARGUMENT, world, x -> answerOf(() -> x.burst(0, ticks)));
            }
            changesNothing("told(0, 10)", ARGUMENT, world, x -> answerOf(() -> x.told(0, 10)));
        }
        for (int ticks : new int[] {-1, 30001}) {
            changesNothing("run(" + ticks + ")", ARGUMENT, world, x -> answerOf(() -> x.run(ticks)));
        }
        changesNothing("queued(0, 16)", NONE, world, x -> answerOf(() -> x.queued(0, 16)));
        changesNothing("all(4)", ARGUMENT, world, x -> answerOf(() -> x.all(4)));
        changesNothing("switched(400)", INDEX, world, x -> answerOf(() -> x.switched(400)));
    }

    private static void refusedBehindTimeZero(String name, Supplier<Counted> world) {
        part("'the time isn't 0', " + name);
        changesNothing("level(0, 9, 9)", STATE, world, x -> answerOf(() -> x.level(0, 9, 9)));
        changesNothing("level(2, 100, 1000)", STATE, world, x -> answerOf(() -> x.level(2, 100, 1000)));
        changesNothing("period(0)", STATE, world, x -> answerOf(() -> x.period(0)));
        changesNothing("period(2)", STATE, world, x -> answerOf(() -> x.period(2)));
        changesNothing("process(0)", STATE, world, x -> answerOf(() -> x.process(0)));
        changesNothing("process(20000)", STATE, world, x -> answerOf(() -> x.process(20000)));
        changesNothing("burst(0, 1)", STATE, world, x -> answerOf(() -> x.burst(0, 1)));
        changesNothing("burst(2, 5000)", STATE, world, x -> answerOf(() -> x.burst(2, 5000)));
    }

    private static void refusedForTheTime() {
        part("'the time would be above 100000'");
        changesNothing("run(1)", ARGUMENT, RefusedTest::atTheLastTime, x -> answerOf(() -> x.run(1)));
        changesNothing("run(30000)", ARGUMENT, RefusedTest::atTheLastTime, x -> answerOf(() -> x.run(30000)));
        Supplier<Counted> world = () -> {
            Counted x = toldWorld();
            for (int i = 0; i < 3; i++) {
                x.run(30000);
            }
            return x;
        };
        changesNothing("run(10001)", ARGUMENT, world, x -> answerOf(() -> x.run(10001)));
    }

    private static void refusedWhenFull() {
        part("'NONE when there are 16'");
        changesNothing("process(0)", NONE, RefusedTest::fullHouse, x -> answerOf(() -> x.process(0)));
        changesNothing("process(7)", NONE, RefusedTest::fullHouse, x -> answerOf(() -> x.process(7)));
        changesNothing("process(20001)", ARGUMENT, RefusedTest::fullHouse, x -> answerOf(() -> x.process(20001)));
        part("'NONE when there are 12'");
        changesNothing("burst(1, 1)", NONE, RefusedTest::fullBursts, x -> answerOf(() -> x.burst(1, 1)));
        changesNothing("burst(1, 5000)", NONE, RefusedTest::fullBursts, x -> answerOf(() -> x.burst(1, 5000)));
        changesNothing("burst(1, 0)", ARGUMENT, RefusedTest::fullBursts, x -> answerOf(() -> x.burst(1, 0)));
    }

    private static void severalWouldDo() {
        part("'the one named first when several would do'");
        Supplier<Counted> world = RefusedTest::midway;
        changesNothing("level(3, 0, 0)", INDEX, world, x -> answerOf(() -> x.level(3, 0, 0)));
        changesNothing("level(3, 9, 9)", INDEX, world, x -> answerOf(() -> x.level(3, 9, 9)));
        changesNothing("level(2, 0, 9)", ARGUMENT, world, x -> answerOf(() -> x.level(2, 0, 9)));
        changesNothing("level(2, 9, 0)", ARGUMENT, world, x -> answerOf(() -> x.level(2, 9, 0)));
        changesNothing("period(10001)", ARGUMENT, world, x -> answerOf(() -> x.period(10001)));
        changesNothing("process(-1)", ARGUMENT, world, x -> answerOf(() -> x.process(-1)));
        changesNothing("burst(5, 0)", INDEX, world, x -> answerOf(() -> x.burst(5, 0)));
        changesNothing("burst(5, 9)", INDEX, world, x -> answerOf(() -> x.burst(5, 9)));
        changesNothing("burst(4, 0)", ARGUMENT, world, x -> answerOf(() -> x.burst(4, 0)));
        changesNothing("told(5, 10)", INDEX, world, x -> answerOf(() -> x.told(5, 10)));
    }

    /** What only asks, and a run of no ticks, are no refused calls; but they change nothing either. */
    private static void askingChangesNothing(String name, Supplier<Counted> world) {
        part("asking, " + name);
        changesNothing("run(0)", "0", world, x -> answerOf(() -> x.run(0)));
        same("asked twice", stateOf(world.get()), askedTwice(world.get()));
    }

    private static String askedTwice(Counted x) {
        stateOf(x);
        return stateOf(x);
    }

    // How it is looked at

    private static void changesNothing(String name, String want, Supplier<Counted> world, Call call) {
        Counted x = world.get();
        Counted twin = world.get();
        same(name, want, call.answer(x));
        same("the state after " + name, stateOf(twin), stateOf(x));
        same("what follows " + name, whatFollows(twin), whatFollows(x));
    }

    /** Thirty ticks more, then thirty after a restart with a process and bursts more. */
    private static String whatFollows(Counted x) {
        StringBuilder text = new StringBuilder(tenLooks(x));
        x.restart();
        text.append(" process ").append(answerOf(() -> x.process(2)));
        text.append(" bursts ").append(answerOf(() -> x.burst(0, 2)));
        text.append(' ').append(answerOf(() -> x.burst(1, 2)));
        return text.append(tenLooks(x)).append(' ').append(stateOf(x)).toString();
    }

    private static String tenLooks(Counted x) {
        StringBuilder text = new StringBuilder();
        for (int i = 0; i < 10; i++) {
            text.append(' ').append(answerOf(() -> x.run(3)));
            text.append('/').append(x.running());
        }
        return text.toString();
    }
}
