import java.util.ArrayList;
import java.util.Arrays;
import java.util.List;
import java.util.Random;

/**
 * Many small worlds, run beside a second and plainer writing of the document's steps, which has one
 * list of all that are ready instead of queues and counts up where the program counts down.
 */
public final class ModelTest {
    private static final int WORLDS = 60000;
    private static final int SWITCHES_LOOKED_AT = 8;
    private static final int MOST_SHOWN = 20;

    private static int wrong = 0;

    /** The plain second writing. */
    private static final class Model {
        int[][] level;
        int period;
        int[] arrival;
        int[][] bursts;

        int time;
        int runner = -1;
        int used;
        int allowed;
        final List<Integer> ready = new ArrayList<>();
        final List<Integer> switches = new ArrayList<>();
        int idle;
        int cameUp;
        int[] at;
        int[] share;
        int[] left;
        int[] done;
        int[] inBurst;
        int[] backAt;
        int[][] told;

        void begin() {
            int n = arrival.length;
            at = new int[n];
            share = new int[n];
            left = new int[n];
            done = new int[n];
            inBurst = new int[n];
            backAt = new int[n];
            told = new int[n][10];
            Arrays.fill(left, -1);
            Arrays.fill(backAt, -1);
            for (int[] row : told) {
                row[5] = -1;
                row[6] = -1;
            }
        }

        void tick() {
            int t = time;
            if (period != 0 && t > 0 && t % period == 0) {
                comeUp();
            }
            for (int p = 0; p < arrival.length; p++) {
                if (arrival[p] == t) {
                    share[p] = level[0][1];
                    if (bursts[p].length == 0) {
                        end(p, t);
                    } else {
                        makeReady(p);
                    }
                }
            }
            for (int p = 0; p < arrival.length; p++) {
                if (backAt[p] == t) {
                    backAt[p] = -1;
                    done[p]++;
                    if (done[p] == bursts[p].length) {
                        end(p, t);
                    } else {
                        makeReady(p);
                    }
                }
            }
            if (runner >= 0 && first() >= 0 && at[first()] < at[runner]) {
                left[runner] = allowed - used;
                told[runner][9]++;
                told[runner][0] = 1;
                ready.add(0, runner);
                runner = -1;
            }
            if (runner < 0 && first() >= 0) {
                choose(t);
            }
            for (int p = 0; p < arrival.length; p++) {
                told[p][3] += told[p][0] == 1 ? 1 : 0;
                told[p][4] += told[p][0] == 3 ? 1 : 0;
            }
            if (runner < 0) {
                idle++;
            } else {
                work(runner, t);
            }
            time++;
        }

        void comeUp() {
            cameUp++;
            List<Integer> order = new ArrayList<>();
            for (int l = 0; l < level.length; l++) {
                order.addAll(queue(l));
            }
            ready.clear();
            ready.addAll(order);
            for (int p = 0; p < arrival.length; p++) {
                if (told[p][0] >= 1 && told[p][0] <= 3) {
                    at[p] = 0;
                    share[p] = level[0][1];
                    if (left[p] > level[0][0]) {
                        left[p] = level[0][0];
                    }
                }
            }
            used = 0;
            allowed = level[0][0];
        }

        List<Integer> queue(int l) {
            List<Integer> those = new ArrayList<>();
            for (int p : ready) {
                if (at[p] == l) {
                    those.add(p);
                }
            }
            return those;
        }

        int first() {
            int best = -1;
            for (int p : ready) {
                if (best < 0 || at[p] < at[best]) {
                    best = p;
                }
            }
            return best;
        }

        void makeReady(int p) {
            told[p][0] = 1;
            ready.add(p);
        }

        void choose(int t) {
            runner = first();
            ready.remove(Integer.valueOf(runner));
            used = 0;
            allowed = left[runner] > 0 ? left[runner] : level[at[runner]][0];
            left[runner] = -1;
            told[runner][0] = 2;
            told[runner][7]++;
            if (told[runner][5] < 0) {
                told[runner][5] = t;
            }
            switches.add(16 * t + runner);
        }

        void work(int p, int t) {
            used++;
            share[p]--;
            inBurst[p]++;
            told[p][2]++;
            if (inBurst[p] == bursts[p][done[p]]) {
                inBurst[p] = 0;
                done[p]++;
                if (done[p] == bursts[p].length) {
                    end(p, t + 1);
                } else {
                    told[p][0] = 3;
                    backAt[p] = t + 1 + bursts[p][done[p]];
                }
                runner = -1;
            } else if (share[p] <= 0) {
                if (at[p] + 1 < level.length) {
                    at[p]++;
                    told[p][8]++;
                }
                share[p] = level[at[p]][1];
                makeReady(p);
                runner = -1;
            } else if (used == allowed) {
                makeReady(p);
                runner = -1;
            }
        }

        void end(int p, int when) {
            told[p][0] = 4;
            told[p][6] = when;
        }

        int ended() {
            int count = 0;
            for (int[] row : told) {
                count += row[0] == 4 ? 1 : 0;
            }
            return count;
        }
    }

    public static void main(String[] args) {
        Random random = new Random(20261115L);
        Counted x = new Counted();
        for (int world = 0; world < WORLDS && wrong < MOST_SHOWN; world++) {
            Model model = makeWorld(random);
            // An object goes on through several worlds, for what an earlier one may leave behind.
            if (x.callsLeft() < callsToTell(model) + callsToLook(model) || random.nextInt(4) == 0) {
                x = new Counted();
            }
            compare(world, random, model, x);
        }
        System.out.println(wrong == 0 ? "all worlds agree" : wrong + " answers do not agree");
        if (wrong != 0) {
            System.exit(1);
        }
    }

    private static void compare(int world, Random random, Model model, Counted x) {
        tell(model, x);
        model.begin();
        if (random.nextInt(4) == 0) {
            x.run(random.nextInt(60));
            x.restart();
        }
        int looks = 1 + random.nextInt(8);
        int longest = random.nextInt(3) == 0 ? 3 : 1 + 120 / looks;
        for (int i = 0; i < looks && x.callsLeft() >= callsToLook(model); i++) {
            int step = 1 + random.nextInt(longest);
            int idleBefore = model.idle;
            for (int t = 0; t < step; t++) {
                model.tick();
            }
            due(world, model, "run(" + step + ")", model.idle - idleBefore, x.run(step));
            look(world, model, x);
        }
    }

    private static Model makeWorld(Random random) {
        Model model = new Model();
        model.level = new int[1 + random.nextInt(6)][];
        for (int l = 0; l < model.level.length; l++) {
            model.level[l] = new int[] {1 + random.nextInt(6), 1 + random.nextInt(9)};
        }
        model.period = random.nextInt(3) == 0 ? 0 : 1 + random.nextInt(30);
        int count = random.nextInt(random.nextInt(4) != 0 ? 5 : 17);
        model.arrival = new int[count];
        model.bursts = new int[count][];
        int longest = 1 + random.nextInt(14);
        for (int p = 0; p < count; p++) {
            model.arrival[p] = random.nextInt(3) == 0 ? 0 : random.nextInt(40);
            model.bursts[p] = new int[random.nextInt(random.nextBoolean() ? 13 : 4)];
            for (int b = 0; b < model.bursts[p].length; b++) {
                model.bursts[p][b] = 1 + random.nextInt(longest);
            }
        }
        return model;
    }

    /** With the two calls of a run that is started over. */
    private static int callsToTell(Model model) {
        int calls = 4 + model.level.length + model.arrival.length;
        for (int[] row : model.bursts) {
            calls += row.length;
        }
        return calls;
    }

    /** With the call that runs before it. */
    private static int callsToLook(Model model) {
        return 7 + model.level.length + 11 * model.arrival.length + SWITCHES_LOOKED_AT;
    }

    private static void tell(Model model, Counted x) {
        x.levels(model.level.length);
        for (int l = 0; l < model.level.length; l++) {
            x.level(l, model.level[l][0], model.level[l][1]);
        }
        x.period(model.period);
        for (int p = 0; p < model.arrival.length; p++) {
            x.process(model.arrival[p]);
            for (int ticks : model.bursts[p]) {
                x.burst(p, ticks);
            }
        }
    }

    private static void look(int world, Model model, Counted x) {
        due(world, model, "time()", model.time, x.time());
        due(world, model, "running()", model.runner, x.running());
        for (int l = 0; l < model.level.length; l++) {
            List<Integer> queue = model.queue(l);
            for (int k = 0; k <= queue.size(); k++) {
                due(world, model, "queued(" + l + ", " + k + ")", k < queue.size() ? queue.get(k) : -1, x.queued(l, k));
            }
        }
        for (int p = 0; p < model.arrival.length; p++) {
            for (int what = 0; what < 10; what++) {
                int want = what == 1 ? model.at[p] : model.told[p][what];
                due(world, model, "told(" + p + ", " + what + ")", want, x.told(p, what));
            }
        }
        int switches = x.all(0);
        due(world, model, "all(0)", model.switches.size(), switches);
        due(world, model, "all(1)", model.idle, x.all(1));
        due(world, model, "all(2)", model.cameUp, x.all(2));
        due(world, model, "all(3)", model.ended(), x.all(3));
        for (int k = Math.max(0, switches - SWITCHES_LOOKED_AT); k < Math.min(switches, model.switches.size()); k++) {
            due(world, model, "switched(" + k + ")", model.switches.get(k), x.switched(k));
        }
    }

    private static void due(int world, Model model, String call, int want, int got) {
        if (want != got && wrong < MOST_SHOWN) {
            wrong++;
            System.out.println("world " + world + " at time " + model.time + ": " + call + " answered " + got + ", due is " + want);
        }
    }
}
