import java.util.Random;

/** Drawn runs of calls, compared call by call with NaiveModel. Promises 6 to 25. */
public final class ModelTest {
    private static final Checks CHECKS = new Checks("ModelTest");
    private static final long MOST_ROWS = 12000;

    public static void main(String[] args) {
        for (int seed = 0; seed < 400 && CHECKS.wrongSoFar() == 0; seed++) {
            run(seed);
        }
        CHECKS.end();
    }

    private static void run(int seed) {
        Random random = new Random(seed);
        int processes = 2 + seed % 4;
        ZigzagLines x = Checks.laid("n" + processes + ";");
        NaiveModel model = new NaiveModel(processes);
        int saveOften = 1 + random.nextInt(4);
        for (int step = 0; step < 60; step++) {
            String at = "seed " + seed + " step " + step + " ";
            act(at, x, model, random, saveOften);
            if (model.rowsOfStates() > MOST_ROWS) {
                return;
            }
            if (step % 12 == 11) {
                compareAll(at, x, model, random);
            }
        }
        compareAll("seed " + seed + " at its end ", x, model, random);
    }

    private static void act(String at, ZigzagLines x, NaiveModel model, Random random, int often) {
        int processes = model.processes;
        int p = random.nextInt(processes);
        int kind = random.nextInt(24);
        if (kind < often) {
            CHECKS.due(at + "save " + p, x.save(p), model.save(p));
        } else if (kind < 12) {
            int q = (p + 1 + random.nextInt(processes - 1)) % processes;
            CHECKS.due(at + "send " + p + " " + q, x.send(p, q), model.send(p, q));
        } else if (kind < 20) {
            if (!model.messages.isEmpty()) {
                int m = random.nextInt(model.messages.size());
                CHECKS.due(at + "receive " + m, x.receive(m), model.receive(m));
            }
        } else if (kind == 20) {
            int mode = random.nextInt(4);
            CHECKS.due(at + "mode", x.mode(mode), mode == model.mode ? -2 : model.mode);
            model.mode = mode;
        } else if (kind == 21) {
            if (random.nextInt(3) == 0) {
                int set = 1 + random.nextInt((1 << processes) - 1);
                CHECKS.due(at + "fail " + set, x.fail(set), model.fail(set));
            }
        } else if (kind == 22) {
            if (random.nextInt(3) == 0) {
                CHECKS.due(at + "gather", x.gather(), model.gather());
            }
        } else {
            int z = random.nextInt(10000);
            int n = 1 + random.nextInt(8);
            CHECKS.due(at + "drive " + z + " " + n, x.drive(z, n), model.drive(z, n));
        }
    }

    private static void compareAll(String at, ZigzagLines x, NaiveModel model, Random random) {
        int[][] lines = compareLines(at, x, model);
        compareMessages(at, x, model);
        int[] sums = new int[5];
        for (int p = 0; p < model.processes; p++) {
            compareProcess(at, x, model, p, lines, sums);
        }
        CHECKS.due(at + "count 6", x.count(6), sums[0]);
        CHECKS.due(at + "count 7", x.count(7), sums[1]);
        CHECKS.due(at + "count 8", x.count(8), sums[2]);
        CHECKS.due(at + "count 9", x.count(9), sums[3]);
        CHECKS.due(at + "count 10", x.count(10), sums[4]);
        compareWays(at, x, model, random);
        comparePicks(at, x, model, random);
    }

    private static int[][] compareLines(String at, ZigzagLines x, NaiveModel model) {
        int[][] lines = new int[1 << model.processes][];
        for (int set = 0; set < lines.length; set++) {
            lines[set] = model.failing(set);
            CHECKS.dueRow(at + "line of set " + set, Checks.line(x, set), lines[set]);
            int behind = 0;
            int lost = 0;
            int again = 0;
            int anew = 0;
            for (int p = 0; p < model.processes; p++) {
                for (int i = lines[set][p] + 1; i < model.kept(p); i++) {
                    behind++;
                }
                if (lines[set][p] == 0 && model.kept(p) > 1) {
                    anew = 1;
                }
            }
            for (int m = 0; m < model.messages.size(); m++) {
                NaiveModel.Sent sent = model.messages.get(m);
                if (model.isGone(m)) {
                    continue;
                }
                if (model.sentIn(m) >= lines[set][sent.from]) {
                    lost++;
                } else if (model.isReceived(m) && model.receivedIn(m) >= lines[set][sent.to]) {
                    again++;
                }
            }
            CHECKS.dueRow(at + "back of set " + set, Checks.back(x, set),
                    model.rounds(set), behind, lost, again, anew);
        }
        return lines;
    }

    private static void compareMessages(String at, ZigzagLines x, NaiveModel model) {
        int received = 0;
        int gone = 0;
        for (int m = 0; m < model.messages.size(); m++) {
            NaiveModel.Sent sent = model.messages.get(m);
            boolean isReceived = model.isReceived(m);
            boolean isGone = model.isGone(m);
            received += isReceived ? 1 : 0;
            gone += isGone ? 1 : 0;
            CHECKS.dueRow(at + "message " + m, Checks.message(x, m), sent.from, sent.to,
                    sent.stretch, isReceived ? model.receivedIn(m) : -4, sent.mark,
                    isGone ? 2 : isReceived ? 1 : 0);
        }
        int[] waiting = new int[model.underWay.size()];
        for (int i = 0; i < waiting.length; i++) {
            waiting[i] = model.underWay.get(i);
        }
        CHECKS.dueRow(at + "underway", Checks.underway(x), waiting);
        CHECKS.due(at + "count 2", x.count(2), model.messages.size());
        CHECKS.due(at + "count 3", x.count(3), waiting.length);
        CHECKS.due(at + "count 4", x.count(4), received);
        CHECKS.due(at + "count 5", x.count(5), gone);
    }

    private static void compareProcess(String at, ZigzagLines x, NaiveModel model, int p,
            int[][] lines, int[] sums) {
        int kept = model.kept(p);
        int forced = 0;
        int freed = 0;
        int idle = 0;
        int needed = 0;
        for (int i = 0; i < kept; i++) {
            NaiveModel.Event state = model.savedState(p, i);
            int isForced = state.forced ? 1 : 0;
            int isFreed = state.freed ? 1 : 0;
            int isIdle = model.fewest(p, i, p, i, false) >= 0 ? 1 : 0;
            int isNeeded = 0;
            for (int set = 1; set < lines.length; set++) {
                isNeeded |= lines[set][p] == i ? 1 : 0;
            }
            forced += isForced;
            freed += isFreed;
            idle += isIdle;
            needed += isNeeded;
            CHECKS.dueRow(at + "saved " + p + " " + i, Checks.saved(x, p, i),
                    state.mark, isForced, isFreed, isIdle, isNeeded);
            compareKnown(at, x, p, i, state.known);
        }
        compareKnown(at, x, p, kept, model.last(p).known);
        CHECKS.dueRow(at + "process " + p, Checks.process(x, p), kept, model.last(p).mark,
                forced, freed, idle, needed, model.sentNow(p));
        int[] more = {kept, forced, idle, needed, freed};
        for (int i = 0; i < more.length; i++) {
            sums[i] += more[i];
        }
    }

    private static void compareKnown(String at, ZigzagLines x, int p, int i, int[] known) {
        int[] want = new int[x.count(0)];
        for (int q = 0; q < want.length; q++) {
            want[q] = known[q] < 0 ? -4 : known[q];
        }
        CHECKS.dueRow(at + "knows " + p + " " + i, Checks.knows(x, p, i), want);
    }

    private static void compareWays(String at, ZigzagLines x, NaiveModel model, Random random) {
        for (int time = 0; time < 40; time++) {
            int p = random.nextInt(model.processes);
            int q = random.nextInt(model.processes);
            int i = random.nextInt(model.kept(p) + 1);
            int j = random.nextInt(model.kept(q) + 1);
            String told = p + " " + i + " " + q + " " + j;
            CHECKS.due(at + "way " + told, x.way(p, i, q, j), model.fewest(p, i, q, j, false));
            CHECKS.due(at + "cause " + told, x.cause(p, i, q, j), model.fewest(p, i, q, j, true));
        }
    }

    private static void comparePicks(String at, ZigzagLines x, NaiveModel model, Random random) {
        compareThrough(at, x, model);
        for (int time = 0; time < 4; time++) {
            int p = random.nextInt(model.processes);
            int i = random.nextInt(model.kept(p) + 1);
            boolean same = model.picked[p] == i;
            model.picked[p] = i;
            int size = 0;
            for (int state : model.picked) {
                size += state >= 0 ? 1 : 0;
            }
            CHECKS.due(at + "pick " + p + " " + i, x.pick(p, i), same ? -2 : size);
            CHECKS.due(at + "count 11", x.count(11), size);
            compareThrough(at + "pick " + p + " " + i + " ", x, model);
        }
        if (random.nextInt(3) == 0) {
            int size = x.count(11);
            CHECKS.due(at + "unpick", x.unpick(), size);
            java.util.Arrays.fill(model.picked, -1);
        }
    }

    private static void compareThrough(String at, ZigzagLines x, NaiveModel model) {
        for (int which = 0; which < 2; which++) {
            int[] want = new int[model.processes];
            int[] line = model.pickedAbove() ? null : model.through(which);
            for (int p = 0; p < want.length; p++) {
                want[p] = model.pickedAbove() ? -2 : line == null ? -4 : line[p];
            }
            CHECKS.dueRow(at + "through " + which, Checks.through(x, which), want);
        }
    }
}
