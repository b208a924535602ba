import java.util.ArrayList;
import java.util.List;

/**
 * The document done the slow way, to compare with: each process has a log of what it did, a process
 * that goes back cuts its log, and lines are found by trying every state of every process.
 */
final class NaiveModel {
    static final int BAD = -1, NO = -2, FULL = -3, NONE = -4;

    enum Kind { SAVE, SEND, RECEIVE }

    static final class Event {
        final Kind kind;
        final int message;
        final boolean forced;
        final int mark;
        final int[] known;
        boolean freed;

        Event(Kind kind, int message, boolean forced, int mark, int[] known) {
            this.kind = kind;
            this.message = message;
            this.forced = forced;
            this.mark = mark;
            this.known = known.clone();
        }
    }

    static final class Sent {
        final int from;
        final int to;
        final int stretch;
        final int mark;
        final int[] known;

        Sent(int from, int to, int stretch, int mark, int[] known) {
            this.from = from;
            this.to = to;
            this.stretch = stretch;
            this.mark = mark;
            this.known = known.clone();
        }
    }

    final int processes;
    int mode;
    final List<List<Event>> logs = new ArrayList<>();
    final List<Sent> messages = new ArrayList<>();
    List<Integer> underWay = new ArrayList<>();
    final int[] picked = {-1, -1, -1, -1, -1};

    NaiveModel(int processes) {
        this.processes = processes;
        for (int p = 0; p < processes; p++) {
            int[] known = {-1, -1, -1, -1, -1};
            known[p] = 0;
            List<Event> log = new ArrayList<>();
            log.add(new Event(Kind.SAVE, -1, false, 0, known));
            logs.add(log);
        }
    }

    // ---- the logs

    Event last(int p) {
        return logs.get(p).get(logs.get(p).size() - 1);
    }

    int kept(int p) {
        return stretchAt(p, logs.get(p).size()) + 1;
    }

    /** The stretch in which the log's place lies. */
    int stretchAt(int p, int place) {
        int saves = 0;
        for (int i = 0; i < place; i++) {
            if (logs.get(p).get(i).kind == Kind.SAVE) {
                saves++;
            }
        }
        return saves - 1;
    }

    int placeOf(int p, Kind kind, int m) {
        for (int i = 0; i < logs.get(p).size(); i++) {
            Event e = logs.get(p).get(i);
            if (e.kind == kind && e.message == m) {
                return i;
            }
        }
        return -1;
    }

    int placeOfSave(int p, int state) {
        int saves = -1;
        for (int i = 0; i < logs.get(p).size(); i++) {
            if (logs.get(p).get(i).kind == Kind.SAVE) {
                saves++;
                if (saves == state) {
                    return i;
                }
            }
        }
        throw new IllegalStateException("no such state");
    }

    Event savedState(int p, int state) {
        return logs.get(p).get(placeOfSave(p, state));
    }

    int sentPlace(int m) {
        return placeOf(messages.get(m).from, Kind.SEND, m);
    }

    int receivedPlace(int m) {
        return placeOf(messages.get(m).to, Kind.RECEIVE, m);
    }

    boolean isGone(int m) {
        return sentPlace(m) < 0;
    }

    boolean isReceived(int m) {
        return receivedPlace(m) >= 0;
    }

    int sentIn(int m) {
        return stretchAt(messages.get(m).from, sentPlace(m));
    }

    int receivedIn(int m) {
        return stretchAt(messages.get(m).to, receivedPlace(m));
    }

    int sentNow(int p) {
        int sent = 0;
        for (int i = logs.get(p).size() - 1; logs.get(p).get(i).kind != Kind.SAVE; i--) {
            if (logs.get(p).get(i).kind == Kind.SEND) {
                sent++;
            }
        }
        return sent;
    }

    // ---- what processes do

    int save(int p) {
        if (kept(p) == 12) {
            return FULL;
        }
        addSave(p, last(p).mark + 1, false);
        return kept(p);
    }

    void addSave(int p, int mark, boolean forced) {
        int[] known = last(p).known.clone();
        known[p] = kept(p);
        logs.get(p).add(new Event(Kind.SAVE, -1, forced, mark, known));
    }

    int send(int a, int b) {
        if (messages.size() == 60) {
            return FULL;
        }
        int m = messages.size();
        messages.add(new Sent(a, b, kept(a) - 1, last(a).mark, last(a).known));
        logs.get(a).add(new Event(Kind.SEND, m, false, last(a).mark, last(a).known));
        underWay.add(m);
        return m;
    }

    int receive(int m) {
        if (!underWay.contains(m)) {
            return NO;
        }
        Sent sent = messages.get(m);
        int p = sent.to;
        boolean forced = forces(sent);
        if (forced && kept(p) == 12) {
            return FULL;
        }
        if (forced) {
            addSave(p, mode == 1 ? sent.mark : last(p).mark + 1, true);
        }
        int[] known = last(p).known.clone();
        for (int q = 0; q < processes; q++) {
            if (q != p && sent.known[q] > known[q]) {
                known[q] = sent.known[q];
            }
        }
        logs.get(p).add(new Event(Kind.RECEIVE, m, false, last(p).mark, known));
        underWay.remove(Integer.valueOf(m));
        return forced ? 1 : 0;
    }

    boolean forces(Sent sent) {
        int p = sent.to;
        if (mode == 1) {
            return sent.mark > last(p).mark;
        }
        if (mode == 0 || sentNow(p) == 0) {
            return false;
        }
        if (mode == 3) {
            return true;
        }
        boolean news = false;
        for (int q = 0; q < processes; q++) {
            news |= q != p && sent.known[q] > last(p).known[q];
        }
        return news;
    }

    int drive(int z, int n) {
        int done = 0;
        for (int k = 0; k < n; k++) {
            java.math.BigInteger x = java.math.BigInteger.valueOf(7919L * z + 6151L * k + 1);
            int draw = x.multiply(x).mod(java.math.BigInteger.valueOf(65521)).intValue();
            int a = (draw / 4) % processes;
            int answer;
            if (draw % 4 == 0) {
                answer = save(a);
            } else if (draw % 4 == 3) {
                answer = underWay.isEmpty()
                        ? NONE : receive(underWay.get((draw / 32) % underWay.size()));
            } else {
                answer = send(a, (a + (draw / 32) % (processes - 1) + 1) % processes);
            }
            if (answer >= 0) {
                done++;
            }
        }
        return done;
    }

    int fail(int set) {
        int[] line = failing(set);
        List<Integer> were = new ArrayList<>();
        for (int m = 0; m < messages.size(); m++) {
            if (!isGone(m) && isReceived(m)) {
                were.add(m);
            }
        }
        int went = 0;
        for (int p = 0; p < processes; p++) {
            if (line[p] < kept(p)) {
                int place = placeOfSave(p, line[p]);
                logs.set(p, new ArrayList<>(logs.get(p).subList(0, place + 1)));
                went++;
            }
        }
        List<Integer> now = new ArrayList<>();
        for (int m : underWay) {
            if (!isGone(m)) {
                now.add(m);
            }
        }
        for (int m : were) {
            if (!isGone(m) && !isReceived(m)) {
                now.add(m);
            }
        }
        underWay = now;
        return went;
    }

    int gather() {
        int[] line = failing((1 << processes) - 1);
        int more = 0;
        for (int p = 0; p < processes; p++) {
            for (int i = 0; i < line[p]; i++) {
                if (!savedState(p, i).freed) {
                    savedState(p, i).freed = true;
                    more++;
                }
            }
        }
        return more;
    }

    // ---- ways

    int fewest(int p, int i, int q, int j, boolean cause) {
        List<Integer> front = new ArrayList<>();
        boolean[] seen = new boolean[messages.size()];
        for (int m = 0; m < messages.size(); m++) {
            if (isReceived(m) && messages.get(m).from == p && sentIn(m) >= i) {
                front.add(m);
                seen[m] = true;
            }
        }
        for (int length = 1; !front.isEmpty(); length++) {
            List<Integer> next = new ArrayList<>();
            for (int m : front) {
                if (messages.get(m).to == q && receivedIn(m) < j) {
                    return length;
                }
                for (int n = 0; n < messages.size(); n++) {
                    if (!seen[n] && isReceived(n) && follows(m, n, cause)) {
                        seen[n] = true;
                        next.add(n);
                    }
                }
            }
            front = next;
        }
        return NONE;
    }

    boolean follows(int m, int n, boolean cause) {
        if (messages.get(n).from != messages.get(m).to) {
            return false;
        }
        return cause ? sentPlace(n) > receivedPlace(m) : sentIn(n) >= receivedIn(m);
    }

    // ---- lines

    boolean isLine(int[] states) {
        for (int[] m : crossings) {
            if (m[1] >= states[m[0]] && m[3] < states[m[2]]) {
                return false;
            }
        }
        return true;
    }

    /** Sender, its stretch, receiver, its stretch, of each received message. */
    private final List<int[]> crossings = new ArrayList<>();

    private void noteCrossings() {
        crossings.clear();
        for (int m = 0; m < messages.size(); m++) {
            if (isReceived(m)) {
                Sent sent = messages.get(m);
                crossings.add(new int[] {sent.from, sentIn(m), sent.to, receivedIn(m)});
            }
        }
    }

    /** The line between two rows of states with the least or the most states ahead; or null. */
    int[] bestLine(int[] low, int[] high, boolean most) {
        noteCrossings();
        int[] states = low.clone();
        int[] best = null;
        int bestSum = 0;
        while (true) {
            if (isLine(states)) {
                int sum = 0;
                for (int p = 0; p < processes; p++) {
                    sum += states[p];
                }
                if (best == null || (most ? sum > bestSum : sum < bestSum)) {
                    best = states.clone();
                    bestSum = sum;
                }
            }
            int p = 0;
            while (p < processes && states[p] == high[p]) {
                states[p] = low[p];
                p++;
            }
            if (p == processes) {
                return best;
            }
            states[p]++;
        }
    }

    int[] startOf(int set) {
        int[] states = new int[processes];
        for (int p = 0; p < processes; p++) {
            states[p] = (set >> p & 1) == 1 ? kept(p) - 1 : kept(p);
        }
        return states;
    }

    int[] failing(int set) {
        return bestLine(new int[processes], startOf(set), true);
    }

    int rounds(int set) {
        noteCrossings();
        int[] states = startOf(set);
        for (int rounds = 0;; rounds++) {
            int[] next = states.clone();
            for (int[] m : crossings) {
                if (m[1] >= states[m[0]] && m[3] < states[m[2]]) {
                    next[m[2]] = Math.min(next[m[2]], m[3]);
                }
            }
            if (java.util.Arrays.equals(next, states)) {
                return rounds;
            }
            states = next;
        }
    }

    /** The least (0) or greatest (1) line through what is picked, or null. */
    int[] through(int which) {
        int[] low = new int[processes];
        int[] high = new int[processes];
        for (int p = 0; p < processes; p++) {
            low[p] = picked[p] >= 0 ? picked[p] : 0;
            high[p] = picked[p] >= 0 ? picked[p] : kept(p);
        }
        return bestLine(low, high, which == 1);
    }

    boolean pickedAbove() {
        for (int p = 0; p < processes; p++) {
            if (picked[p] > kept(p)) {
                return true;
            }
        }
        return false;
    }

    /** How many rows of states a search for a line would try. */
    long rowsOfStates() {
        long rows = 1;
        for (int p = 0; p < processes; p++) {
            rows *= kept(p) + 1;
        }
        return rows;
    }
}
