/**
 * Lets processes take turns on one processor by queues of several levels, tick by tick.
 * All rows are made with the object and used again, so that no call makes anything but
 * the exception that it throws.
 */
public final class FeedbackQueues {
    public static final int NONE = -1;

    private static final int MOST_LEVELS = 6;
    private static final int MOST_QUANTUM = 100;
    private static final int MOST_SHARE = 1000;
    private static final int MOST_PERIOD = 10000;
    private static final int MOST_TASKS = 16;
    private static final int MOST_ARRIVAL = 20000;
    private static final int MOST_BURSTS = 12;
    private static final int MOST_BURST_TICKS = 5000;
    private static final int MOST_RUN_TICKS = 30000;
    private static final int MOST_TIME = 100000;
    private static final int MOST_SWITCHES_KEPT = 400;
    private static final int TICK_FACTOR = 16;

    private static final int TO_COME = 0;
    private static final int READY = 1;
    private static final int RUNNING = 2;
    private static final int BLOCKED = 3;
    private static final int ENDED = 4;

    private final Level[] levelRows = new Level[MOST_LEVELS];
    private final Task[] tasks = new Task[MOST_TASKS];
    private final int[] switchesKept = new int[MOST_SWITCHES_KEPT];
    private int levelCount = 1;
    private int taskCount = 0;
    private int periodTicks = 0;
    private int now = 0;
    private Task onProcessor = null;
    private int switchCount = 0;
    private int idleCount = 0;
    private int comeUpCount = 0;
    private int endedCount = 0;

    public FeedbackQueues() {
        for (int i = 0; i < MOST_LEVELS; i++) {
            levelRows[i] = new Level();
        }
        for (int i = 0; i < MOST_TASKS; i++) {
            tasks[i] = new Task(i);
        }
    }

    public void levels(int n) throws IllegalArgumentException {
        if (n < 1 || n > MOST_LEVELS) {
            throw new IllegalArgumentException("there are 1 to 6 levels");
        }
        levelCount = n;
        for (int i = 0; i < MOST_LEVELS; i++) {
            levelRows[i].quantum = 1;
            levelRows[i].share = 1;
        }
        taskCount = 0;
        startOver();
    }

    public void level(int level, int quantum, int share)
            throws IndexOutOfBoundsException, IllegalArgumentException, IllegalStateException {
        if (!isLevel(level)) {
            throw new IndexOutOfBoundsException("there is no such level");
        }
        if (quantum < 1 || quantum > MOST_QUANTUM) {
            throw new IllegalArgumentException("a quantum is 1 to 100");
        }
        if (share < 1 || share > MOST_SHARE) {
            throw new IllegalArgumentException("a share is 1 to 1000");
        }
        if (now != 0) {
            throw new IllegalStateException("the time isn't 0");
        }
        levelRows[level].quantum = quantum;
        levelRows[level].share = share;
    }

    public void period(int period) throws IllegalArgumentException, IllegalStateException {
        if (period < 0 || period > MOST_PERIOD) {
            throw new IllegalArgumentException("a period is 0 to 10000");
        }
        if (now != 0) {
            throw new IllegalStateException("the time isn't 0");
        }
        periodTicks = period;
    }

    public int process(int arrival) throws IllegalArgumentException, IllegalStateException {
        if (arrival < 0 || arrival > MOST_ARRIVAL) {
            throw new IllegalArgumentException("an arrival is 0 to 20000");
        }
        if (now != 0) {
            throw new IllegalStateException("the time isn't 0");
        }
        if (taskCount >= MOST_TASKS) {
            return NONE;
        }
        tasks[taskCount].tellArrival(arrival);
        taskCount++;
        return taskCount - 1;
    }

    public int burst(int process, int ticks)
            throws IndexOutOfBoundsException, IllegalArgumentException, IllegalStateException {
        if (!isTask(process)) {
            throw new IndexOutOfBoundsException("there is no such process");
        }
        if (ticks < 1 || ticks > MOST_BURST_TICKS) {
            throw new IllegalArgumentException("a burst is 1 to 5000 ticks");
        }
        if (now != 0) {
            throw new IllegalStateException("the time isn't 0");
        }
        return tasks[process].tellBurst(ticks);
    }

    public int run(int ticks) throws IllegalArgumentException {
        if (ticks < 0 || ticks > MOST_RUN_TICKS) {
            throw new IllegalArgumentException("0 to 30000 ticks are done at once");
        }
        if (now + ticks > MOST_TIME) {
            throw new IllegalArgumentException("the time would be above 100000");
        }
        int idleBefore = idleCount;
        for (int i = 0; i < ticks; i++) {
            doTick();
        }
        return idleCount - idleBefore;
    }

    public void restart() {
        startOver();
    }

    public int time() {
        return now;
    }

    public int told(int process, int what) throws IndexOutOfBoundsException, IllegalArgumentException {
        if (!isTask(process)) {
            throw new IndexOutOfBoundsException("there is no such process");
        }
        Task task = tasks[process];
        switch (what) {
            case 0: return task.state;
            case 1: return task.level;
            case 2: return task.ticksRun;
            case 3: return task.ticksReady;
            case 4: return task.ticksBlocked;
            case 5: return task.firstRun;
            case 6: return task.endedAt;
            case 7: return task.timesSwitchedTo;
            case 8: return task.timesDown;
            case 9: return task.timesToFront;
            default: throw new IllegalArgumentException("what is 0 to 9");
        }
    }

    public int running() {
        return onProcessor == null ? NONE : onProcessor.number;
    }

    public int queued(int level, int k) throws IndexOutOfBoundsException {
        if (!isLevel(level)) {
            throw new IndexOutOfBoundsException("there is no such level");
        }
        return levelRows[level].at(k);
    }

    public int all(int what) throws IllegalArgumentException {
        switch (what) {
            case 0: return switchCount;
            case 1: return idleCount;
            case 2: return comeUpCount;
            case 3: return endedCount;
            default: throw new IllegalArgumentException("what is 0 to 3");
        }
    }

    public int switched(int k) throws IndexOutOfBoundsException {
        if (k < 0 || k >= switchCount || k >= MOST_SWITCHES_KEPT) {
            throw new IndexOutOfBoundsException("this switch is not kept");
        }
        return switchesKept[k];
    }

    private boolean isLevel(int level) {
        return level >= 0 && level < levelCount;
    }

    private boolean isTask(int number) {
        return number >= 0 && number < taskCount;
    }

    private void startOver() {
        now = 0;
        onProcessor = null;
        switchCount = 0;
        idleCount = 0;
        comeUpCount = 0;
        endedCount = 0;
        for (int i = 0; i < MOST_LEVELS; i++) {
            levelRows[i].clear();
        }
        for (int i = 0; i < MOST_TASKS; i++) {
            tasks[i].startOver();
        }
    }

    /** The document's steps 1 to 6, in their order. */
    private void doTick() {
        if (periodTicks != 0 && now > 0 && now % periodTicks == 0) {
            bringAllUp();
        }
        letArrive();
        letComeBack();
        makeWay();
        if (onProcessor == null) {
            switchToFirst();
        }
        countWaiting();
        if (onProcessor == null) {
            idleCount++;
        } else {
            useTick(onProcessor);
        }
        now++;
    }

    private void bringAllUp() {
        comeUpCount++;
        Level top = levelRows[0];
        for (int i = 0; i < taskCount; i++) {
            if (tasks[i].state != TO_COME && tasks[i].state != ENDED) {
                tasks[i].comeUp(top.quantum, top.share);
            }
        }
        for (int i = 1; i < levelCount; i++) {
            top.addAllOf(levelRows[i]);
            levelRows[i].clear();
        }
    }

    private void letArrive() {
        for (int i = 0; i < taskCount; i++) {
            Task task = tasks[i];
            if (task.state == TO_COME && task.arrival == now) {
                task.shareLeft = levelRows[0].share;
                goOnOrEnd(task);
            }
        }
    }

    private void letComeBack() {
        for (int i = 0; i < taskCount; i++) {
            Task task = tasks[i];
            if (task.state == BLOCKED && task.burstLeft == 0) {
                goOnOrEnd(task);
            }
        }
    }

    private void goOnOrEnd(Task task) {
        if (task.beginBurst()) {
            standAtEnd(task);
        } else {
            endTask(task, now);
        }
    }

    private void makeWay() {
        if (onProcessor == null || !isOneReadyAbove(onProcessor.level)) {
            return;
        }
        onProcessor.state = READY;
        onProcessor.keepsQuantum = true;
        onProcessor.timesToFront++;
        levelRows[onProcessor.level].addFirst(onProcessor.number);
        onProcessor = null;
    }

    private boolean isOneReadyAbove(int level) {
        for (int i = 0; i < level; i++) {
            if (levelRows[i].size > 0) {
                return true;
            }
        }
        return false;
    }

    private void switchToFirst() {
        for (int i = 0; i < levelCount; i++) {
            int first = levelRows[i].takeFirst();
            if (isTask(first)) {
                switchTo(tasks[first]);
                return;
            }
        }
    }

    private void switchTo(Task task) {
        task.beginRunning(now, levelRows[task.level].quantum);
        if (switchCount < MOST_SWITCHES_KEPT) {
            switchesKept[switchCount] = TICK_FACTOR * now + task.number;
        }
        switchCount++;
        onProcessor = task;
    }

    private void countWaiting() {
        for (int i = 0; i < taskCount; i++) {
            Task task = tasks[i];
            if (task.state == READY) {
                task.ticksReady++;
            } else if (task.state == BLOCKED) {
                task.ticksBlocked++;
                task.burstLeft--;
            }
        }
    }

    private void useTick(Task task) {
        task.ticksRun++;
        task.burstLeft--;
        task.quantumLeft--;
        task.shareLeft--;
        if (task.burstLeft == 0) {
            blockOrEnd(task);
        } else if (task.shareLeft <= 0) { // below 0 when the burst before used it up
            sendDown(task);
        } else if (task.quantumLeft == 0) {
            standAtEnd(task);
        } else {
            return;
        }
        onProcessor = null;
    }

    private void blockOrEnd(Task task) {
        if (task.beginBurst()) {
            task.state = BLOCKED;
        } else {
            // The tick that ended it is done too, so the time is one more by then.
            endTask(task, now + 1);
        }
    }

    private void sendDown(Task task) {
        if (task.level < levelCount - 1) {
            task.level++;
            task.timesDown++;
        }
        task.shareLeft = levelRows[task.level].share;
        standAtEnd(task);
    }

    private void standAtEnd(Task task) {
        task.state = READY;
        levelRows[task.level].addLast(task.number);
    }

    private void endTask(Task task, int time) {
        task.state = ENDED;
        task.endedAt = time;
        endedCount++;
    }

    /** A level's quantum, share and queue. */
    private static final class Level {
        private int quantum = 1;
        private int share = 1;
        private final int[] queue = new int[MOST_TASKS];
        private int size = 0;

        private void clear() {
            size = 0;
        }

        private int at(int k) {
            return k >= 0 && k < size ? queue[k] : NONE;
        }

        private void addLast(int number) {
            if (size < MOST_TASKS) {
                queue[size] = number;
                size++;
            }
        }

        private void addFirst(int number) {
            if (size < MOST_TASKS) {
                for (int i = size; i > 0; i--) {
                    queue[i] = queue[i - 1];
                }
                queue[0] = number;
                size++;
            }
        }

        private int takeFirst() {
            if (size == 0) {
                return NONE;
            }
            int first = queue[0];
            size--;
            for (int i = 0; i < size; i++) {
                queue[i] = queue[i + 1];
            }
            return first;
        }

        private void addAllOf(Level other) {
            for (int i = 0; i < other.size; i++) {
                addLast(other.queue[i]);
            }
        }
    }

    /** A process: what was told of it, how it stands, and what is counted of it. */
    private static final class Task {
        private final int number;
        private int arrival = 0;
        private final int[] bursts = new int[MOST_BURSTS];
        private int burstCount = 0;

        private int state = TO_COME;
        private int level = 0;
        private int burstsBegun = 0;
        private int burstLeft = 0;
        private int quantumLeft = 0;
        private int shareLeft = 0;
        private boolean keepsQuantum = false;

        private int ticksRun = 0;
        private int ticksReady = 0;
        private int ticksBlocked = 0;
        private int firstRun = NONE;
        private int endedAt = NONE;
        private int timesSwitchedTo = 0;
        private int timesDown = 0;
        private int timesToFront = 0;

        private Task(int number) {
            this.number = number;
        }

        private void startOver() {
            state = TO_COME;
            level = 0;
            burstsBegun = 0;
            burstLeft = 0;
            quantumLeft = 0;
            shareLeft = 0;
            keepsQuantum = false;
            ticksRun = 0;
            ticksReady = 0;
            ticksBlocked = 0;
            firstRun = NONE;
            endedAt = NONE;
            timesSwitchedTo = 0;
            timesDown = 0;
            timesToFront = 0;
        }

        private void tellArrival(int tick) {
            arrival = tick;
            burstCount = 0;
        }

        private int tellBurst(int ticks) {
            if (burstCount >= MOST_BURSTS) {
                return NONE;
            }
            bursts[burstCount] = ticks;
            burstCount++;
            return burstCount;
        }

        /** Answers false, and changes nothing, when the last burst was begun before. */
        private boolean beginBurst() {
            if (burstsBegun >= burstCount) {
                return false;
            }
            burstLeft = bursts[burstsBegun];
            burstsBegun++;
            return true;
        }

        private void beginRunning(int tick, int quantum) {
            state = RUNNING;
            if (!keepsQuantum) {
                quantumLeft = quantum;
            }
            keepsQuantum = false;
            timesSwitchedTo++;
            if (firstRun == NONE) {
                firstRun = tick;
            }
        }

        private void comeUp(int quantum, int share) {
            level = 0;
            shareLeft = share;
            // Only what was put to the front looks at this later: the others get a new one.
            quantumLeft = state == RUNNING ? quantum : Math.min(quantumLeft, quantum);
        }
    }
}
