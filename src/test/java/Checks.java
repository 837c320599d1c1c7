import java.util.function.IntSupplier;

/** What the tests are written with. Answers that are not as due are printed and counted. */
abstract class Checks {
    static final String INDEX = "IndexOutOfBoundsException";
    static final String ARGUMENT = "IllegalArgumentException";
    static final String STATE = "IllegalStateException";

    private static int wrong = 0;
    private static String part = "";

    /** Names what the checks behind it are about: a promise, a step, or the document's words. */
    static void part(String name) {
        part = name;
    }

    static void due(String what, int want, int got) {
        same(what, Integer.toString(want), Integer.toString(got));
    }

    static void same(String what, String want, String got) {
        if (!want.equals(got)) {
            wrong++;
            System.out.println(part + ": " + what + " answered " + got + ", due is " + want);
        }
    }

    static void refused(String what, String want, IntSupplier call) {
        same(what, want, answerOf(call));
    }

    /** For the calls that answer nothing. */
    static void refused(String what, String want, Runnable call) {
        same(what, want, answerOf(call));
    }

    /** The answer, or the very class of what was thrown. */
    static String answerOf(IntSupplier call) {
        try {
            return Integer.toString(call.getAsInt());
        } catch (RuntimeException e) {
            return e.getClass().getSimpleName();
        }
    }

    static String answerOf(Runnable call) {
        try {
            call.run();
            return "nothing";
        } catch (RuntimeException e) {
            return e.getClass().getSimpleName();
        }
    }

    static void finish(String allRight) {
        System.out.println(wrong == 0 ? allRight : wrong + " answers are not as due");
        if (wrong != 0) {
            System.exit(1);
        }
    }

    static int addProcess(Counted x, int arrival, int... bursts) {
        int number = x.process(arrival);
        for (int ticks : bursts) {
            x.burst(number, ticks);
        }
        return number;
    }

    static void timelineDue(Counted x, String want) {
        int from = x.time();
        same("timeline from tick " + from, want, timeline(x, want.length()));
    }

    /** Who ran in each of so many ticks, a character each; a dot when none did. */
    static String timeline(Counted x, int ticks) {
        StringBuilder text = new StringBuilder();
        int[] before = ticksRun(x);
        for (int i = 0; i < ticks; i++) {
            x.run(1);
            int[] after = ticksRun(x);
            char who = '.';
            for (int p = 0; p < after.length; p++) {
                who = after[p] > before[p] ? Character.forDigit(p, 16) : who;
            }
            text.append(who);
            before = after;
        }
        return text.toString();
    }

    private static int[] ticksRun(Counted x) {
        int[] ticks = new int[x.processCount()];
        for (int p = 0; p < ticks.length; p++) {
            ticks[p] = x.told(p, 2);
        }
        return ticks;
    }

    static void toldDue(Counted x, int process, int... want) {
        for (int what = 0; what < 10; what++) {
            due("told(" + process + ", " + what + ") at " + x.time(), want[what], x.told(process, what));
        }
    }

    static void allDue(Counted x, int... want) {
        for (int what = 0; what < 4; what++) {
            due("all(" + what + ") at " + x.time(), want[what], x.all(what));
        }
    }

    /** The processes that stand in a level's queue, and no other behind them. */
    static void queueDue(Counted x, int level, int... want) {
        for (int k = 0; k < want.length; k++) {
            due("queued(" + level + ", " + k + ")", want[k], x.queued(level, k));
        }
        due("queued(" + level + ", " + want.length + ")", FeedbackQueues.NONE, x.queued(level, want.length));
    }

    /** All that an object answers, with the first twelve switches for the sake of the calls. */
    static String stateOf(Counted x) {
        StringBuilder text = new StringBuilder();
        text.append("time ").append(x.time()).append(", running ").append(x.running());
        for (int level = 0; level < x.levelCount(); level++) {
            text.append(", queue ").append(level).append(':').append(queueOf(x, level));
        }
        for (int p = 0; p < x.processCount(); p++) {
            text.append(", process ").append(p).append(':');
            for (int what = 0; what < 10; what++) {
                text.append(' ').append(x.told(p, what));
            }
        }
        text.append(", all:");
        for (int what = 0; what < 4; what++) {
            text.append(' ').append(x.all(what));
        }
        text.append(", switches:");
        int switches = Math.min(x.all(0), 12);
        for (int k = 0; k < switches; k++) {
            text.append(' ').append(x.switched(k));
        }
        return text.toString();
    }

    private static String queueOf(Counted x, int level) {
        StringBuilder text = new StringBuilder();
        for (int k = 0; k < 16; k++) {
            int who = x.queued(level, k);
            if (who == FeedbackQueues.NONE) {
                return text.toString();
            }
            text.append(' ').append(who);
        }
        return text.toString();
    }
}
