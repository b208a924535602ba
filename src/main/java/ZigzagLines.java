/**
 * Processes that send each other messages and save their states; which of the saved states are of
 * use when some of the processes fail. DOC.md has the promises that the public methods keep.
 */
public final class ZigzagLines {
    public static final int BAD = -1, NO = -2, FULL = -3, NONE = -4;

    private static final int LEAST_PROCESSES = 2;
    private static final int MOST_PROCESSES = 5;
    private static final int MOST_SAVED = 12;
    private static final int MOST_MESSAGES = 60;
    private static final int MOST_LETTERS = 200;
    private static final int MOST_MODE = 3;
    private static final int MOST_DRAWN = 60;
    private static final int MOST_SEED = 9999;
    private static final int DRAW_MODULUS = 65521;

    /** Every round moves a state by one at least, and there are no more states to move by. */
    private static final int MOST_ROUNDS = MOST_PROCESSES * MOST_SAVED + 1;

    private static final int UNDER_WAY = 0;
    private static final int RECEIVED = 1;
    private static final int GONE = 2;

    /** Below every stretch and every state, so that any of them is later. */
    private static final int NOT_YET = -1;

    /** Behind every stretch and every moment. */
    private static final int NEVER = 2147483647;

    private static final String FIRST_TEXT =
            "n3;s01;c1;r00;s12;r01;c2;s20;c0;r02;s01;r03;c1;s21;c0;c2;";

    private final Letters text;
    private final Picks picks;
    private final Lines lines;
    private final Ways ways;
    private World world;
    private World spare;

    public ZigzagLines() {
        text = new Letters();
        picks = new Picks();
        lines = new Lines();
        ways = new Ways();
        world = new World();
        spare = new World();
        for (int i = 0; i < FIRST_TEXT.length(); i++) {
            text.add(FIRST_TEXT.charAt(i));
        }
        Teller.tell(text, world);
        text.clear();
    }

    // ---- told

    public int write(int letter) {
        if (letter < 32 || letter > 126) {
            return BAD;
        }
        return text.add((char) letter) ? text.length : FULL;
    }

    public int wipe() {
        return text.clear();
    }

    public int fault() {
        return Teller.tell(text, spare);
    }

    public int lay() {
        if (text.length == 0 || Teller.tell(text, spare) != NONE) {
            return NO;
        }
        World told = spare;
        spare = world;
        world = told;
        picks.clear();
        return world.processes;
    }

    // ---- what processes do

    public int mode(int m) {
        if (m < 0 || m > MOST_MODE) {
            return BAD;
        }
        if (m == world.forcing) {
            return NO;
        }
        int was = world.forcing;
        world.forcing = m;
        return was;
    }

    public int save(int p) {
        return world.keepState(p);
    }

    public int send(int a, int b) {
        return world.post(a, b);
    }

    public int receive(int m) {
        return world.take(m);
    }

    public int fail(int set) {
        if (set == 0 || !world.isSet(set)) {
            return BAD;
        }
        lines.findFailing(world, set);
        return world.goBack(lines.states);
    }

    public int gather() {
        lines.findFailing(world, world.allProcesses());
        int more = 0;
        for (int p = 0; p < world.processes; p++) {
            more += world.actors[p].free(lines.states[p]);
        }
        return more;
    }

    public int drive(int z, int n) {
        if (z < 0 || z > MOST_SEED || n < 1 || n > MOST_DRAWN) {
            return BAD;
        }
        int could = 0;
        for (int k = 0; k < n; k++) {
            long x = 7919L * z + 6151L * k + 1L;
            if (world.doDrawn((int) (x * x % DRAW_MODULUS))) {
                could++;
            }
        }
        return could;
    }

    // ---- looked at

    public int process(int p, int what) {
        if (!world.isProcess(p)) {
            return BAD;
        }
        Actor actor = world.actors[p];
        switch (what) {
            case 0: return actor.kept;
            case 1: return actor.mark;
            case 2: return actor.countForced();
            case 3: return actor.countFreed();
            case 4: return countIdle(p);
            case 5: return lines.countNeeded(world, p, p + 1);
            case 6: return world.countSentNow(p);
            default: return BAD;
        }
    }

    public int knows(int p, int i, int q) {
        if (!world.isState(p, i) || !world.isProcess(q)) {
            return BAD;
        }
        int stretch = world.actors[p].knownAt(i, q);
        return stretch == NOT_YET ? NONE : stretch;
    }

    public int saved(int p, int i, int what) {
        if (!world.isState(p, i) || i == world.actors[p].kept) {
            return BAD;
        }
        Actor actor = world.actors[p];
        switch (what) {
            case 0: return actor.keptMark[i];
            case 1: return oneIf(actor.forced[i]);
            case 2: return oneIf(actor.freed[i]);
            case 3: return oneIf(isIdle(p, i));
            case 4: return oneIf(lines.isNeeded(world, p, i));
            default: return BAD;
        }
    }

    public int message(int m, int what) {
        if (!world.isMessage(m)) {
            return BAD;
        }
        Message seen = world.mail[m];
        switch (what) {
            case 0: return seen.sender;
            case 1: return seen.receiver;
            case 2: return seen.sentIn;
            case 3: return seen.stage == RECEIVED ? seen.receivedIn : NONE;
            case 4: return seen.mark;
            case 5: return seen.stage;
            default: return BAD;
        }
    }

    public int underway(int i) {
        if (i < -1) {
            return BAD;
        }
        if (i == -1) {
            return world.waiting;
        }
        return i < world.waiting ? world.queue[i] : NONE;
    }

    // ---- ways

    public int way(int p, int i, int q, int j) {
        if (!world.isState(p, i) || !world.isState(q, j)) {
            return BAD;
        }
        return ways.fewest(world, p, i, q, j, false);
    }

    public int cause(int p, int i, int q, int j) {
        if (!world.isState(p, i) || !world.isState(q, j)) {
            return BAD;
        }
        return ways.fewest(world, p, i, q, j, true);
    }

    // ---- lines

    public int line(int set, int p) {
        if (!world.isSet(set) || !world.isProcess(p)) {
            return BAD;
        }
        lines.findFailing(world, set);
        return lines.states[p];
    }

    public int back(int set, int what) {
        if (!world.isSet(set)) {
            return BAD;
        }
        lines.findFailing(world, set);
        switch (what) {
            case 0: return lines.rounds;
            case 1: return world.countBehind(lines.states);
            case 2: return world.countLost(lines.states);
            case 3: return world.countAgain(lines.states);
            case 4: return oneIf(world.someBeginAnew(lines.states));
            default: return BAD;
        }
    }

    public int pick(int p, int i) {
        if (!world.isState(p, i)) {
            return BAD;
        }
        if (picks.picked[p] == i) {
            return NO;
        }
        picks.picked[p] = i;
        return picks.size();
    }

    public int unpick() {
        return picks.clear();
    }

    public int through(int which, int p) {
        if (which < 0 || which > 1 || !world.isProcess(p)) {
            return BAD;
        }
        if (picks.someAbove(world)) {
            return NO;
        }
        boolean found = which == 0
                ? lines.findLeast(world, picks) : lines.findGreatest(world, picks);
        return found ? lines.states[p] : NONE;
    }

    public int count(int what) {
        switch (what) {
            case 0: return world.processes;
            case 1: return world.forcing;
            case 2: return world.messages;
            case 3: return world.countStage(UNDER_WAY);
            case 4: return world.countStage(RECEIVED);
            case 5: return world.countStage(GONE);
            case 6: return world.countKept();
            case 7: return world.countForced();
            case 8: return countAllIdle();
            case 9: return lines.countNeeded(world, 0, world.processes);
            case 10: return world.countFreed();
            case 11: return picks.size();
            case 12: return text.length;
            default: return BAD;
        }
    }

    private int countAllIdle() {
        int sum = 0;
        for (int p = 0; p < world.processes; p++) {
            sum += countIdle(p);
        }
        return sum;
    }

    private int countIdle(int p) {
        int idle = 0;
        for (int i = 0; i < world.actors[p].kept; i++) {
            if (isIdle(p, i)) {
                idle++;
            }
        }
        return idle;
    }

    private boolean isIdle(int p, int i) {
        return ways.fewest(world, p, i, p, i, false) != NONE;
    }

    private static int oneIf(boolean so) {
        return so ? 1 : 0;
    }

    /** THE TEXT. */
    static final class Letters {
        final char[] letters = new char[MOST_LETTERS];
        int length;

        boolean add(char letter) {
            if (length >= MOST_LETTERS) {
                return false;
            }
            letters[length] = letter;
            length++;
            return true;
        }

        int clear() {
            int was = length;
            length = 0;
            return was;
        }

        /** The letter at a place, or the sign 0, which no text holds, outside the text. */
        char letterAt(int place) {
            return place >= 0 && place < length ? letters[place] : (char) 0;
        }

        /** The figure at a place, or -1. */
        int figureAt(int place) {
            char letter = letterAt(place);
            return letter >= '0' && letter <= '9' ? letter - '0' : -1;
        }
    }

    /** Reads a text and does in a world what its items tell. */
    static final class Teller {
        /** The place of the first fault, or NONE; the world is all as told only for NONE. */
        static int tell(Letters text, World world) {
            int place = 0;
            for (int item = 0; item < MOST_LETTERS && place < text.length; item++) {
                int figures = figuresBehind(text, place);
                if (figures == 0 || !doItem(text, place, figures, world)) {
                    return place;
                }
                place += figures + 2;
            }
            return NONE;
        }

        /** How many figures (1 or 2) stand ahead of the item's semicolon; 0: it isn't an item. */
        static int figuresBehind(Letters text, int place) {
            if (text.figureAt(place + 1) < 0) {
                return 0;
            }
            if (text.letterAt(place + 2) == ';') {
                return 1;
            }
            return text.figureAt(place + 2) >= 0 && text.letterAt(place + 3) == ';' ? 2 : 0;
        }

        static boolean doItem(Letters text, int place, int figures, World world) {
            char kind = text.letterAt(place);
            if ((place == 0) != (kind == 'n')) {
                return false;
            }
            int first = text.figureAt(place + 1);
            if (figures == 1) {
                return doShortItem(kind, first, world);
            }
            int second = text.figureAt(place + 2);
            switch (kind) {
                case 's': return world.post(first, second) >= 0;
                case 'r': return world.take(10 * first + second) >= 0;
                default: return false;
            }
        }

        static boolean doShortItem(char kind, int figure, World world) {
            switch (kind) {
                case 'n': return world.begin(figure);
                case 'c': return world.keepState(figure) >= 0;
                case 'm':
                    if (figure > MOST_MODE) {
                        return false;
                    }
                    world.forcing = figure;
                    return true;
                default: return false;
            }
        }
    }

    /** A message: who sent it to whom, in which stretches and at which moments, what it carries. */
    static final class Message {
        int sender;
        int receiver;
        int sentIn;
        int sentAt;
        int receivedIn;
        int receivedAt;
        int mark;
        int stage;
        final int[] carried = new int[MOST_PROCESSES];

        /** It was received ahead of the receiver's state, but sent behind that of its sender. */
        boolean crosses(int[] states) {
            return stage == RECEIVED && receivedIn < states[receiver] && sentIn >= states[sender];
        }

        /** It is gone when processes go back to these states, and was not so already. */
        boolean isLostBehind(int[] states) {
            return stage != GONE && sentIn >= states[sender];
        }

        /** It is under way again when processes go back to these states. */
        boolean isAgainBehind(int[] states) {
            return stage == RECEIVED && receivedIn >= states[receiver] && sentIn < states[sender];
        }
    }

    /** A process: what it is in now, and what is kept with each of its saved states. */
    static final class Actor {
        int kept;
        int mark;
        final int[] known = new int[MOST_PROCESSES];
        final int[] keptMark = new int[MOST_SAVED];
        final int[] keptAt = new int[MOST_SAVED];
        final boolean[] forced = new boolean[MOST_SAVED];
        final boolean[] freed = new boolean[MOST_SAVED];
        final int[] keptKnown = new int[MOST_SAVED * MOST_PROCESSES];

        void begin(int self, int moment) {
            kept = 0;
            for (int q = 0; q < MOST_PROCESSES; q++) {
                known[q] = NOT_YET;
            }
            keepState(self, 0, false, moment);
        }

        boolean isFull() {
            return kept >= MOST_SAVED;
        }

        void keepState(int self, int newMark, boolean byForce, int moment) {
            if (kept >= MOST_SAVED) {
                return;
            }
            mark = newMark;
            known[self] = kept;
            keptMark[kept] = newMark;
            keptAt[kept] = moment;
            forced[kept] = byForce;
            freed[kept] = false;
            System.arraycopy(known, 0, keptKnown, kept * MOST_PROCESSES, MOST_PROCESSES);
            kept++;
        }

        void learn(int self, int[] carried) {
            for (int q = 0; q < MOST_PROCESSES; q++) {
                if (q != self) {
                    known[q] = Math.max(known[q], carried[q]);
                }
            }
        }

        boolean wouldLearn(int self, int[] carried) {
            for (int q = 0; q < MOST_PROCESSES; q++) {
                if (q != self && carried[q] > known[q]) {
                    return true;
                }
            }
            return false;
        }

        int knownAt(int state, int q) {
            return state < kept ? keptKnown[state * MOST_PROCESSES + q] : known[q];
        }

        /** Goes back to a state; answers whether it had to. */
        boolean goBack(int state) {
            if (state < 0 || state >= kept) {
                return false;
            }
            kept = state + 1;
            mark = keptMark[state];
            System.arraycopy(keptKnown, state * MOST_PROCESSES, known, 0, MOST_PROCESSES);
            return true;
        }

        /** Frees all saved states ahead of one; answers how many more are free. */
        int free(int state) {
            int more = 0;
            for (int i = 0; i < kept && i < state; i++) {
                if (!freed[i]) {
                    freed[i] = true;
                    more++;
                }
            }
            return more;
        }

        int countForced() {
            return countTrue(forced);
        }

        int countFreed() {
            return countTrue(freed);
        }

        int countTrue(boolean[] row) {
            int sum = 0;
            for (int i = 0; i < kept; i++) {
                if (row[i]) {
                    sum++;
                }
            }
            return sum;
        }
    }

    /** All processes and messages, as they stand since the text was laid. */
    static final class World {
        int processes;
        int forcing;
        int messages;
        int waiting;
        int moment;
        final Actor[] actors = new Actor[MOST_PROCESSES];
        final Message[] mail = new Message[MOST_MESSAGES];
        final int[] queue = new int[MOST_MESSAGES];

        World() {
            for (int p = 0; p < MOST_PROCESSES; p++) {
                actors[p] = new Actor();
            }
            for (int m = 0; m < MOST_MESSAGES; m++) {
                mail[m] = new Message();
            }
        }

        boolean begin(int howMany) {
            if (howMany < LEAST_PROCESSES || howMany > MOST_PROCESSES) {
                return false;
            }
            processes = howMany;
            forcing = 0;
            messages = 0;
            waiting = 0;
            moment = 0;
            for (int p = 0; p < processes; p++) {
                actors[p].begin(p, moment);
            }
            return true;
        }

        boolean isProcess(int p) {
            return p >= 0 && p < processes;
        }

        boolean isState(int p, int i) {
            return isProcess(p) && i >= 0 && i <= actors[p].kept;
        }

        boolean isMessage(int m) {
            return m >= 0 && m < messages;
        }

        int allProcesses() {
            return (1 << processes) - 1;
        }

        boolean isSet(int set) {
            return set >= 0 && set <= allProcesses();
        }

        int keepState(int p) {
            if (!isProcess(p)) {
                return BAD;
            }
            if (actors[p].isFull()) {
                return FULL;
            }
            moment++;
            actors[p].keepState(p, actors[p].mark + 1, false, moment);
            return actors[p].kept;
        }

        int post(int a, int b) {
            if (!isProcess(a) || !isProcess(b) || a == b) {
                return BAD;
            }
            if (messages >= MOST_MESSAGES) {
                return FULL;
            }
            moment++;
            Message sent = mail[messages];
            sent.sender = a;
            sent.receiver = b;
            sent.sentIn = actors[a].kept - 1;
            sent.sentAt = moment;
            sent.mark = actors[a].mark;
            System.arraycopy(actors[a].known, 0, sent.carried, 0, MOST_PROCESSES);
            putUnderWay(messages);
            messages++;
            return messages - 1;
        }

        int take(int m) {
            if (!isMessage(m)) {
                return BAD;
            }
            Message taken = mail[m];
            if (taken.stage != UNDER_WAY) {
                return NO;
            }
            boolean byForce = forces(taken);
            Actor actor = actors[taken.receiver];
            if (byForce && actor.isFull()) {
                return FULL;
            }
            if (byForce) {
                moment++;
                int newMark = forcing == 1 ? taken.mark : actor.mark + 1;
                actor.keepState(taken.receiver, newMark, true, moment);
            }
            moment++;
            taken.stage = RECEIVED;
            taken.receivedIn = actor.kept - 1;
            taken.receivedAt = moment;
            actor.learn(taken.receiver, taken.carried);
            dropFromQueue();
            return oneIf(byForce);
        }

        /** Whether the receiver must save ahead of this message. */
        boolean forces(Message taken) {
            Actor actor = actors[taken.receiver];
            switch (forcing) {
                case 1: return taken.mark > actor.mark;
                case 2: return countSentNow(taken.receiver) > 0
                        && actor.wouldLearn(taken.receiver, taken.carried);
                case 3: return countSentNow(taken.receiver) > 0;
                default: return false;
            }
        }

        int countSentNow(int p) {
            int sum = 0;
            for (int m = 0; m < messages; m++) {
                Message seen = mail[m];
                // A process that went back does its stretch anew, so what is gone was never sent.
                if (seen.sender == p && seen.stage != GONE && seen.sentIn == actors[p].kept - 1) {
                    sum++;
                }
            }
            return sum;
        }

        void putUnderWay(int m) {
            mail[m].stage = UNDER_WAY;
            if (waiting < MOST_MESSAGES) {
                queue[waiting] = m;
                waiting++;
            }
        }

        /** Closes the gaps that messages left that aren't under way any more. */
        void dropFromQueue() {
            int stay = 0;
            for (int i = 0; i < waiting; i++) {
                if (mail[queue[i]].stage == UNDER_WAY) {
                    queue[stay] = queue[i];
                    stay++;
                }
            }
            waiting = stay;
        }

        /** Processes go back to the states of a line; answers how many do. */
        int goBack(int[] line) {
            for (int m = 0; m < messages; m++) {
                if (mail[m].isLostBehind(line)) {
                    mail[m].stage = GONE;
                }
            }
            dropFromQueue();
            for (int m = 0; m < messages; m++) {
                if (mail[m].isAgainBehind(line)) {
                    putUnderWay(m);
                }
            }
            int went = 0;
            for (int p = 0; p < processes; p++) {
                if (actors[p].goBack(line[p])) {
                    went++;
                }
            }
            return went;
        }

        /** Does what a draw tells; answers whether it could be done. */
        boolean doDrawn(int draw) {
            if (processes < LEAST_PROCESSES || draw < 0) {
                return false;
            }
            int actor = draw / 4 % processes;
            int far = draw / 32;
            switch (draw % 4) {
                case 0: return keepState(actor) >= 0;
                case 3: return waiting > 0 && take(queue[far % waiting]) >= 0;
                default:
                    int other = (actor + far % (processes - 1) + 1) % processes;
                    return post(actor, other) >= 0;
            }
        }

        int countKept() {
            int sum = 0;
            for (int p = 0; p < processes; p++) {
                sum += actors[p].kept;
            }
            return sum;
        }

        int countForced() {
            int sum = 0;
            for (int p = 0; p < processes; p++) {
                sum += actors[p].countForced();
            }
            return sum;
        }

        int countFreed() {
            int sum = 0;
            for (int p = 0; p < processes; p++) {
                sum += actors[p].countFreed();
            }
            return sum;
        }

        int countStage(int stage) {
            int sum = 0;
            for (int m = 0; m < messages; m++) {
                if (mail[m].stage == stage) {
                    sum++;
                }
            }
            return sum;
        }

        /** How many saved states lie behind a line. */
        int countBehind(int[] line) {
            int sum = 0;
            for (int p = 0; p < processes; p++) {
                sum += Math.max(0, actors[p].kept - 1 - line[p]);
            }
            return sum;
        }

        int countLost(int[] line) {
            int sum = 0;
            for (int m = 0; m < messages; m++) {
                if (mail[m].isLostBehind(line)) {
                    sum++;
                }
            }
            return sum;
        }

        int countAgain(int[] line) {
            int sum = 0;
            for (int m = 0; m < messages; m++) {
                if (mail[m].isAgainBehind(line)) {
                    sum++;
                }
            }
            return sum;
        }

        boolean someBeginAnew(int[] line) {
            for (int p = 0; p < processes; p++) {
                if (line[p] == 0 && actors[p].kept > 1) {
                    return true;
                }
            }
            return false;
        }
    }

    /** The states that are picked, one of a process at most. */
    static final class Picks {
        final int[] picked = {NOT_YET, NOT_YET, NOT_YET, NOT_YET, NOT_YET};

        boolean has(int p) {
            return picked[p] != NOT_YET;
        }

        int size() {
            int sum = 0;
            for (int p = 0; p < MOST_PROCESSES; p++) {
                if (has(p)) {
                    sum++;
                }
            }
            return sum;
        }

        int clear() {
            int were = size();
            for (int p = 0; p < MOST_PROCESSES; p++) {
                picked[p] = NOT_YET;
            }
            return were;
        }

        boolean someAbove(World world) {
            for (int p = 0; p < world.processes; p++) {
                if (picked[p] > world.actors[p].kept) {
                    return true;
                }
            }
            return false;
        }

        boolean areOn(int[] line) {
            for (int p = 0; p < MOST_PROCESSES; p++) {
                if (has(p) && picked[p] != line[p]) {
                    return false;
                }
            }
            return true;
        }
    }

    /** Finds lines; the last one found stands in its states. */
    static final class Lines {
        final int[] states = new int[MOST_PROCESSES];
        final int[] ahead = new int[MOST_PROCESSES];
        final int[] needed = new int[MOST_PROCESSES];
        int rounds;

        void findFailing(World world, int set) {
            for (int p = 0; p < world.processes; p++) {
                int now = world.actors[p].kept;
                states[p] = ((set >> p) & 1) == 1 ? now - 1 : now;
            }
            settleBack(world);
        }

        /** Goes round by round from the states to the latest line that is no later. */
        void settleBack(World world) {
            rounds = 0;
            for (int round = 0; round < MOST_ROUNDS; round++) {
                if (!goRound(world)) {
                    return;
                }
                rounds++;
            }
        }

        boolean goRound(World world) {
            boolean went = false;
            System.arraycopy(states, 0, ahead, 0, MOST_PROCESSES);
            for (int m = 0; m < world.messages; m++) {
                Message seen = world.mail[m];
                if (seen.crosses(ahead)) {
                    states[seen.receiver] = Math.min(states[seen.receiver], seen.receivedIn);
                    went = true;
                }
            }
            return went;
        }

        boolean findGreatest(World world, Picks picks) {
            for (int p = 0; p < world.processes; p++) {
                states[p] = picks.has(p) ? picks.picked[p] : world.actors[p].kept;
            }
            settleBack(world);
            return picks.areOn(states);
        }

        boolean findLeast(World world, Picks picks) {
            for (int p = 0; p < world.processes; p++) {
                states[p] = picks.has(p) ? picks.picked[p] : 0;
            }
            settleOn(world);
            return picks.areOn(states);
        }

        /** Goes on from the states to the earliest line that is no earlier. */
        void settleOn(World world) {
            boolean went = true;
            for (int round = 0; went && round < MOST_ROUNDS; round++) {
                went = false;
                for (int m = 0; m < world.messages; m++) {
                    Message seen = world.mail[m];
                    if (seen.crosses(states)) {
                        states[seen.sender] = seen.sentIn + 1;
                        went = true;
                    }
                }
            }
        }

        /** How many saved states are needed of the processes from one up to another. */
        int countNeeded(World world, int first, int end) {
            findNeeded(world);
            int sum = 0;
            for (int p = first; p < end && p < MOST_PROCESSES; p++) {
                sum += Integer.bitCount(needed[p]);
            }
            return sum;
        }

        boolean isNeeded(World world, int p, int i) {
            findNeeded(world);
            return ((needed[p] >> i) & 1) == 1;
        }

        /** Notes a bit for each saved state that is on the line of some set that fails. */
        void findNeeded(World world) {
            for (int p = 0; p < MOST_PROCESSES; p++) {
                needed[p] = 0;
            }
            for (int set = 1; set <= world.allProcesses(); set++) {
                findFailing(world, set);
                for (int p = 0; p < world.processes; p++) {
                    if (states[p] < world.actors[p].kept) {
                        needed[p] |= 1 << states[p];
                    }
                }
            }
        }
    }

    /** Searches ways by messages, those of one message first. */
    static final class Ways {
        /** From which stretch, or moment, on a process's messages carry a way on. */
        final int[] from = new int[MOST_PROCESSES];
        final int[] next = new int[MOST_PROCESSES];

        /** The fewest messages of a way from state i of p to state j of q, or NONE. */
        int fewest(World world, int p, int i, int q, int j, boolean causal) {
            if (i >= world.actors[p].kept) {
                return NONE;
            }
            for (int r = 0; r < MOST_PROCESSES; r++) {
                next[r] = NEVER;
            }
            next[p] = causal ? world.actors[p].keptAt[i] : i;
            boolean further = true;
            for (int length = 1; further && length <= MOST_MESSAGES; length++) {
                System.arraycopy(next, 0, from, 0, MOST_PROCESSES);
                further = false;
                for (int m = 0; m < world.messages; m++) {
                    Message seen = world.mail[m];
                    if (seen.stage != RECEIVED || !isReached(seen, causal)) {
                        continue;
                    }
                    if (seen.receiver == q && seen.receivedIn < j) {
                        return length;
                    }
                    if (reach(seen, causal)) {
                        further = true;
                    }
                }
            }
            return NONE;
        }

        boolean isReached(Message seen, boolean causal) {
            return (causal ? seen.sentAt : seen.sentIn) >= from[seen.sender];
        }

        /** Carries the way on to the receiver; answers whether it is earlier there than before. */
        boolean reach(Message seen, boolean causal) {
            int there = causal ? seen.receivedAt : seen.receivedIn;
            if (there >= next[seen.receiver]) {
                return false;
            }
            next[seen.receiver] = there;
            return true;
        }
    }
}
