/** Failing for real, freeing and driving, at their limits. Promises 10 to 12. */
public final class FailingEdgesTest {
    private static final Checks CHECKS = new Checks("FailingEdgesTest");
    private static final int BAD = ZigzagLines.BAD;
    private static final int NO = ZigzagLines.NO;
    private static final int FULL = ZigzagLines.FULL;
    private static final int NONE = ZigzagLines.NONE;

    public static void main(String[] args) {
        everySet();
        nothingToUndo();
        thatStretchOrALaterOne();
        whoIsAtKStays();
        asKeptWithIt();
        underWayAgain();
        roomAgain();
        longestWayBack();
        freedAheadOfTheLine();
        freedStayFreed();
        drivenNumbers();
        drivenByDraws();
        drivenToEveryOne();
        drivenIfItCanBe();
        CHECKS.end();
    }

    /** "a set (bits of PROCESSES, not empty)" */
    private static void everySet() {
        for (int n = 2; n <= 5; n++) {
            for (int set = -2; set <= (1 << n) + 1; set++) {
                ZigzagLines x = Checks.laid("n" + n + ";");
                boolean told = set >= 1 && set < 1 << n;
                CHECKS.due("fail " + set + " of " + n, x.fail(set),
                        told ? Integer.bitCount(set) : BAD);
            }
            ZigzagLines x = Checks.laid("n" + n + ";");
            for (int bit = n; bit < 32; bit++) {
                CHECKS.due("one that is none", x.fail(1 << bit), BAD);
                CHECKS.due("one that is none with one that is", x.fail(1 << bit | 1), BAD);
            }
        }
    }

    /** A process that fails goes back though nothing is behind its last state. */
    private static void nothingToUndo() {
        ZigzagLines x = Checks.laid("n3;c1;c1;");
        int[] ahead = Checks.all(x);
        for (int set = 1; set <= 7; set++) {
            CHECKS.due("how many go back", x.fail(set), Integer.bitCount(set));
            CHECKS.dueRow("all is as it was", Checks.all(x), ahead);
        }
    }

    /** "MESSAGES that it SENT in that STRETCH or a later one are GONE" */
    private static void thatStretchOrALaterOne() {
        // 1 receives in stretch 1 what 0 sent behind its last state, so 1 goes back to state 1.
        ZigzagLines x = Checks.laid(
                "n3;s10;s21;r01;c1;s10;s21;r03;c0;s01;r04;c1;s10;s21;r06;c1;s12;");
        CHECKS.dueRow("0 fails", Checks.line(x, 1), 1, 1, 1);
        CHECKS.due("two go back", x.fail(1), 2);
        CHECKS.dueRow("1 sent in stretch 0", Checks.message(x, 0), 1, 0, 0, NONE, 0, 0);
        CHECKS.dueRow("1 received in stretch 0", Checks.message(x, 1), 2, 1, 0, 0, 0, 1);
        CHECKS.dueRow("1 sent in stretch 1", Checks.message(x, 2), 1, 0, 1, NONE, 1, 2);
        CHECKS.dueRow("1 received in stretch 1", Checks.message(x, 3), 2, 1, 0, NONE, 0, 0);
        CHECKS.dueRow("0 sent in its stretch 1", Checks.message(x, 4), 0, 1, 1, NONE, 1, 2);
        CHECKS.dueRow("1 sent in stretch 2", Checks.message(x, 5), 1, 0, 2, NONE, 2, 2);
        CHECKS.dueRow("1 received in stretch 2", Checks.message(x, 6), 2, 1, 0, NONE, 0, 0);
        CHECKS.dueRow("1 sent in stretch 3", Checks.message(x, 7), 1, 2, 3, NONE, 3, 2);
        CHECKS.dueRow("under way", Checks.underway(x), 0, 3, 6);
        CHECKS.dueRow("1", Checks.process(x, 1), 2, 1, 0, 0, 0, 2, 0);
        CHECKS.due("what it saved behind is gone", x.saved(1, 2, 0), BAD);
        CHECKS.due("K is 1 more than that state", x.knows(1, 2, 1), 1);
        CHECKS.dueRow("counts", Checks.counts(x), 3, 0, 8, 3, 1, 4, 5, 0, 0, 4, 0, 0, 63);
        for (int m : new int[] {2, 4, 5, 7}) {
            CHECKS.due("gone is not under way", x.receive(m), NO);
        }
        CHECKS.due("the next number", x.send(1, 0), 8);
    }

    /** "each PROCESS that is not at K on that LINE goes back" */
    private static void whoIsAtKStays() {
        ZigzagLines x = Checks.laid("n3;s01;s10;r00;r01;s12;");
        CHECKS.due("2 alone", x.fail(4), 1);
        CHECKS.dueRow("what others sent stays", Checks.underway(x), 2);
        CHECKS.due("what they received, too", x.count(4), 2);
        CHECKS.due("0 takes 1 along, 1 takes none", x.fail(1), 2);
        CHECKS.due("all are gone", x.count(5), 3);
        CHECKS.due("all fail", x.fail(7), 3);
    }

    /** "its MARK and what it KNOWS are as kept with it" */
    private static void asKeptWithIt() {
        ZigzagLines x = Checks.laid("n3;c0;c0;s01;m1;r00;m0;s21;r01;s12;");
        CHECKS.dueRow("1 knows ahead", Checks.knows(x, 1, 2), 2, 1, 0);
        CHECKS.due("1 fails", x.fail(2), 1);
        CHECKS.dueRow("1 knows as kept", Checks.knows(x, 1, 2), NONE, 1, NONE);
        CHECKS.due("its MARK as kept, by force", x.process(1, 1), 2);
        CHECKS.due("the state was forced still", x.process(1, 2), 1);
        CHECKS.dueRow("under way again, the lower first", Checks.underway(x), 0, 1);
        CHECKS.due("0 fails", x.fail(1), 1);
        CHECKS.due("what it sent is gone", x.message(0, 5), 2);
        CHECKS.due("MARK of 0 as kept", x.process(0, 1), 2);
        ZigzagLines y = Checks.laid("n2;c0;s01;r00;c1;c1;");
        CHECKS.due("1 goes to its state 0", y.fail(1), 2);
        CHECKS.dueRow("as at first", Checks.process(y, 1), 1, 0, 0, 0, 0, 1, 0);
        CHECKS.dueRow("knows as at first", Checks.knows(y, 1, 1), NONE, 0);
        CHECKS.due("it saves anew", y.save(1), 2);
        CHECKS.dueRow("with marks anew", Checks.saved(y, 1, 1), 1, 0, 0, 0, 1);
    }

    /** "(if they are not GONE; behind all that are, the lower first)" */
    private static void underWayAgain() {
        ZigzagLines x = Checks.laid("n3;s01;s21;s01;s21;s20;s10;r03;r02;r01;r00;");
        CHECKS.dueRow("under way ahead", Checks.underway(x), 4, 5);
        CHECKS.due("1 fails", x.fail(2), 1);
        CHECKS.dueRow("behind 4, and 5 is gone", Checks.underway(x), 4, 0, 1, 2, 3);
        CHECKS.due("received anew", x.receive(2), 0);
        CHECKS.due("received anew", x.receive(0), 0);
        CHECKS.due("sent", x.send(0, 2), 6);
        CHECKS.dueRow("in the order they came", Checks.underway(x), 4, 1, 3, 6);
        CHECKS.due("1 fails again", x.fail(2), 1);
        CHECKS.dueRow("behind all that are", Checks.underway(x), 4, 1, 3, 6, 0, 2);
        CHECKS.due("0 and 1 fail", x.fail(3), 2);
        CHECKS.dueRow("those of 0 are gone", Checks.underway(x), 4, 1, 3);
        CHECKS.due("2 fails", x.fail(4), 1);
        CHECKS.dueRow("all are gone", Checks.underway(x));
        CHECKS.due("not the first", x.underway(0), NONE);
        CHECKS.due("none", x.underway(-1), 0);
        // Received where both go back, and sent there: gone, not under way again.
        ZigzagLines y = Checks.laid("n2;s01;r00;s10;r01;");
        CHECKS.due("both", y.fail(3), 2);
        CHECKS.dueRow("none is", Checks.underway(y));
        CHECKS.due("both are gone", y.count(5), 2);
    }

    /** Behind fail() there is room for states, not for messages. */
    private static void roomAgain() {
        ZigzagLines x = Checks.laid("n2;s01;r00;" + "c1;".repeat(11));
        CHECKS.due("FULL", x.save(1), FULL);
        CHECKS.due("0 takes 1 along", x.fail(1), 2);
        for (int k = 2; k <= 12; k++) {
            CHECKS.due("save anew", x.save(1), k);
        }
        CHECKS.due("FULL again", x.save(1), FULL);
        CHECKS.due("messages have numbers since LAID", x.send(0, 1), 1);
    }

    /**
     * 60 messages in a ring of five: each process sends one, then receives the next one and saves.
     * What was sent undoes what was received ahead of it, so a failure goes back one state a round.
     */
    static ZigzagLines longestChain() {
        ZigzagLines x = Checks.laid("n5;");
        for (int m = 0; m < 60; m++) {
            int receiver = (60 - m) % 5;
            x.send((receiver + 4) % 5, receiver);
            x.receive(m);
            x.save(receiver);
        }
        return x;
    }

    private static void longestWayBack() {
        ZigzagLines x = longestChain();
        CHECKS.dueRow("counts", Checks.counts(x), 5, 0, 60, 0, 60, 0, 60, 0, 55, 5, 0, 0, 3);
        CHECKS.dueRow("1 fails", Checks.line(x, 2), 0, 0, 0, 0, 0);
        CHECKS.dueRow("one state a round, all that can be", Checks.back(x, 2), 59, 55, 60, 0, 1);
        // 0 sent the last message in the stretch of the one ahead, so five rounds fall away.
        CHECKS.dueRow("0 fails", Checks.back(x, 1), 55, 55, 60, 0, 1);
        CHECKS.due("all go back", x.fail(1), 5);
        CHECKS.dueRow("counts then", Checks.counts(x), 5, 0, 60, 0, 0, 60, 5, 0, 0, 5, 0, 0, 3);
    }

    /** "FREED are by gather() all SAVED states ahead of the LINE for all of them" */
    private static void freedAheadOfTheLine() {
        for (int saves = 0; saves <= 11; saves++) {
            ZigzagLines x = Checks.laid("n2;" + "c0;".repeat(saves));
            CHECKS.due("gather", x.gather(), saves);
            CHECKS.due("those of 0", x.process(0, 3), saves);
            CHECKS.due("those of 1", x.process(1, 3), 0);
            for (int i = 0; i <= saves; i++) {
                CHECKS.due("state " + i, x.saved(0, i, 2), i < saves ? 1 : 0);
            }
            CHECKS.due("no more", x.gather(), 0);
            CHECKS.due("in all", x.count(10), saves);
        }
        // The line for all goes by messages: 1 is at 1, as 0 sent behind its last state.
        ZigzagLines x = Checks.laid("n2;c0;c1;s01;r00;c1;c1;");
        CHECKS.dueRow("line for all", Checks.line(x, 3), 1, 1);
        CHECKS.due("gather", x.gather(), 2);
        CHECKS.dueRow("on the line", Checks.saved(x, 1, 1), 1, 0, 0, 0, 1);
        CHECKS.dueRow("ahead of it", Checks.saved(x, 1, 0), 0, 0, 1, 0, 0);
        CHECKS.dueRow("behind it", Checks.saved(x, 1, 2), 2, 0, 0, 0, 0);
        CHECKS.due("none of a chain to the beginning", longestChain().gather(), 0);
    }

    /** "(they stay FREED; they count as SAVED states else)" */
    private static void freedStayFreed() {
        ZigzagLines x = Checks.laid("n2;s01;r00;c0;c1;s10;r01;c0;");
        CHECKS.dueRow("line for all", Checks.line(x, 3), 1, 1);
        CHECKS.due("gather", x.gather(), 2);
        CHECKS.due("K counts them", x.process(0, 0), 3);
        CHECKS.due("all counts them", x.count(6), 5);
        CHECKS.due("one is picked", x.pick(0, 0), 1);
        CHECKS.dueRow("a line through it", Checks.through(x, 1), 0, 0);
        CHECKS.due("a way from it", x.way(0, 0, 1, 1), 1);
        CHECKS.due("its MARK", x.saved(0, 0, 0), 0);
        CHECKS.due("what was known", x.knows(0, 0, 0), 0);
        CHECKS.due("1 fails", x.fail(2), 2);
        CHECKS.due("they stay FREED", x.count(10), 2);
        CHECKS.due("no more", x.gather(), 0);
        CHECKS.due("anew", x.save(0), 3);
        CHECKS.due("what is saved anew is not FREED", x.process(0, 3), 1);
        CHECKS.due("one more", x.gather(), 1);
        CHECKS.due("three", x.count(10), 3);
    }

    /** "DRIVEN by z (0 to 9999), n (1 to 60) times" */
    private static void drivenNumbers() {
        for (int n = 2; n <= 5; n++) {
            for (int mode = 0; mode <= 3; mode++) {
                for (int z : new int[] {0, 1, 4999, 9998, 9999}) {
                    for (int times : new int[] {1, 2, 31, 59, 60}) {
                        drivenAsModel(n, mode, z, times);
                    }
                }
            }
        }
        ZigzagLines x = Checks.laid("n2;");
        int[][] bad = {{-1, 60}, {10000, 60}, {9999, 0}, {9999, 61}, {0, -1}, {-9999, 1}, {1, -60},
            {Integer.MIN_VALUE, 1}, {Integer.MAX_VALUE, 1}, {1, Integer.MIN_VALUE},
            {1, Integer.MAX_VALUE}};
        for (int[] numbers : bad) {
            CHECKS.due("drive BAD", x.drive(numbers[0], numbers[1]), BAD);
        }
        CHECKS.dueRow("nothing changes", Checks.counts(x), 2, 0, 0, 0, 0, 0, 2, 0, 0, 2, 0, 0, 3);
    }

    private static void drivenAsModel(int n, int mode, int z, int times) {
        ZigzagLines x = Checks.laid("n" + n + ";m" + mode + ";");
        NaiveModel model = new NaiveModel(n);
        model.mode = mode;
        String told = "n" + n + " mode " + mode + " drive " + z + " " + times;
        CHECKS.due(told, x.drive(z, times), model.drive(z, times));
        CHECKS.due(told + " messages", x.count(2), model.messages.size());
        for (int m = 0; m < model.messages.size(); m++) {
            CHECKS.due(told + " from", x.message(m, 0), model.messages.get(m).from);
            CHECKS.due(told + " to", x.message(m, 1), model.messages.get(m).to);
            CHECKS.due(told + " in", x.message(m, 2), model.messages.get(m).stretch);
        }
        for (int i = 0; i < model.underWay.size(); i++) {
            CHECKS.due(told + " under way", x.underway(i), model.underWay.get(i));
        }
        for (int p = 0; p < n; p++) {
            CHECKS.due(told + " K", x.process(p, 0), model.kept(p));
        }
    }

    /** Draws reckoned by hand: x, x times x, its rest by 65521. */
    private static void drivenByDraws() {
        // z 9999, k 0: x is 79182082, DRAW 51303: the rest by 4 is 3, by 32 it is 1603.
        ZigzagLines x = Checks.laid("n2;");
        CHECKS.due("none is under way", x.drive(9999, 1), 0);
        x = Checks.laid("n2;s01;s01;s01;s01;s01;s01;");
        CHECKS.due("1603 by 6: 1 is ahead", x.drive(9999, 1), 1);
        CHECKS.dueRow("under way then", Checks.underway(x), 0, 2, 3, 4, 5);
        CHECKS.due("1603 by 5: 3 are ahead", x.drive(9999, 1), 1);
        CHECKS.dueRow("under way then", Checks.underway(x), 0, 2, 3, 5);
        // z 9998, k 0: DRAW 8482: the rest by 4 is 2; by 4 it is 2120, by 32 it is 265.
        x = Checks.laid("n5;");
        CHECKS.due("0 sends", x.drive(9998, 1), 1);
        CHECKS.dueRow("1 and 1 behind it", Checks.message(x, 0), 0, 2, 0, NONE, 0, 0);
        x = Checks.laid("n3;");
        CHECKS.due("2 sends", x.drive(9998, 1), 1);
        CHECKS.dueRow("1 and 1 behind it, in a ring", Checks.message(x, 0), 2, 1, 0, NONE, 0, 0);
        // z 8058, k 1: x is 63817454, that is 974 times 65521: DRAW is 0. k 0: DRAW is 29184.
        x = Checks.laid("n2;");
        CHECKS.due("0 saves twice", x.drive(8058, 2), 2);
        CHECKS.due("its K", x.process(0, 0), 3);
        // z 1845, k 0: DRAW is 3, the least that receives. z 7192: DRAW is 65519, the greatest.
        x = Checks.laid("n2;s01;s01;");
        CHECKS.due("none is ahead", x.drive(1845, 1), 1);
        CHECKS.dueRow("under way then", Checks.underway(x), 1);
        x = Checks.laid("n2;s01;s01;s01;s01;");
        CHECKS.due("2047 by 4: 3 are ahead", x.drive(7192, 1), 1);
        CHECKS.dueRow("under way then", Checks.underway(x), 0, 1, 2);
    }

    /** Who sends to whom, of five: the z of a first draw for each pair, reckoned elsewhere. */
    private static void drivenToEveryOne() {
        int[][] draws = {{0, 1, 0}, {0, 2, 76}, {0, 3, 91}, {0, 4, 228}, {1, 0, 43}, {1, 2, 45},
            {1, 3, 48}, {1, 4, 19}, {2, 0, 128}, {2, 1, 17}, {2, 3, 110}, {2, 4, 37}, {3, 0, 146},
            {3, 1, 14}, {3, 2, 8}, {3, 4, 2}, {4, 0, 32}, {4, 1, 22}, {4, 2, 9}, {4, 3, 7},
            {0, 1, 99}, {0, 2, 16}, {0, 3, 80}, {0, 4, 120}, {1, 0, 34}, {1, 2, 153}, {1, 3, 157},
            {1, 4, 215}, {2, 0, 13}, {2, 1, 3}, {2, 3, 93}, {2, 4, 24}, {3, 0, 100}, {3, 1, 20},
            {3, 2, 31}, {3, 4, 130}, {4, 0, 74}, {4, 1, 87}, {4, 2, 121}, {4, 3, 109}};
        for (int[] draw : draws) {
            ZigzagLines x = Checks.laid("n5;");
            CHECKS.due("drive " + draw[2], x.drive(draw[2], 1), 1);
            CHECKS.due("from", x.message(0, 0), draw[0]);
            CHECKS.due("to", x.message(0, 1), draw[1]);
        }
        int[][] ofTwo = {{0, 1, 0}, {1, 0, 2}, {1, 0, 3}, {0, 1, 16}};
        for (int[] draw : ofTwo) {
            ZigzagLines x = Checks.laid("n2;");
            CHECKS.due("drive " + draw[2], x.drive(draw[2], 1), 1);
            CHECKS.due("from", x.message(0, 0), draw[0]);
            CHECKS.due("to", x.message(0, 1), draw[1]);
        }
    }

    /** "each if it can be"; "how many of these could be" */
    private static void drivenIfItCanBe() {
        // z 9998, 60 times, the last DRAW is 44676: of two, 1 saves.
        ZigzagLines full = Checks.laid("n2;" + "c0;".repeat(11) + "c1;".repeat(11));
        ZigzagLines room = Checks.laid("n2;" + "c0;".repeat(11) + "c1;".repeat(10));
        int could = full.drive(9998, 60);
        CHECKS.due("one more can be", room.drive(9998, 60), could + 1);
        CHECKS.due("then K is 12", room.process(1, 0), 12);
        ZigzagLines x = Checks.laid("n2;");
        for (int m = 0; m < 60; m++) {
            x.send(0, 1);
        }
        CHECKS.due("60 are sent already", x.drive(0, 1), 0);
        CHECKS.due("60 still", x.count(2), 60);
        CHECKS.due("one can be received", x.drive(1845, 1), 1);
        // A message that would force one whose K is 12 can't be received.
        ZigzagLines forced = Checks.laid("n2;" + "c1;".repeat(11) + "s01;s10;m3;");
        CHECKS.due("it would be forced", forced.drive(1845, 1), 0);
        CHECKS.dueRow("both are under way", Checks.underway(forced), 0, 1);
        forced.mode(0);
        CHECKS.due("it is not", forced.drive(1845, 1), 1);
        CHECKS.dueRow("one is under way", Checks.underway(forced), 1);
    }
}
