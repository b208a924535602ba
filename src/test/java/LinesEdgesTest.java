/** Lines, rounds and picks, at their limits: promises 20 to 24. */
public final class LinesEdgesTest {
    private static final Checks CHECKS = new Checks("LinesEdgesTest");
    private static final int BAD = ZigzagLines.BAD;
    private static final int NO = ZigzagLines.NO;
    private static final int NONE = ZigzagLines.NONE;

    public static void main(String[] args) {
        everySet();
        sentBehindReceivedAhead();
        lowestStretchOfARound();
        statesAheadOfTheRound();
        onlyReceivedOnesCross();
        backNumbers();
        beginsAnew();
        neededStates();
        pickOneOfAProcess();
        pickAtTheEnds();
        leastAndGreatest();
        throughAll();
        noLineAtAll();
        aboveK();
        farAlongTheLine();
        CHECKS.end();
    }

    /** "if a set FAILS (0: none does)"; "from SAVED state K - 1 of those, K of others" */
    private static void everySet() {
        for (int n = 2; n <= 5; n++) {
            ZigzagLines x = Checks.laid("n" + n + ";c1;c1;c0;");
            int[] kept = {2, 3, 1, 1, 1};
            for (int set = 0; set < 1 << n; set++) {
                for (int p = 0; p < n; p++) {
                    int want = (set >> p & 1) == 1 ? kept[p] - 1 : kept[p];
                    CHECKS.due("line " + set + " " + p, x.line(set, p), want);
                }
                CHECKS.dueRow("back " + set, Checks.back(x, set), 0, 0, 0, 0, 0);
                CHECKS.due("no such process", x.line(set, n), BAD);
                CHECKS.due("no such process", x.line(set, -1), BAD);
                CHECKS.due("no such what", x.back(set, -1), BAD);
                CHECKS.due("no such what", x.back(set, 5), BAD);
            }
            for (int set : new int[] {-1, 1 << n, (1 << n) + 1, 1 << 31, Integer.MAX_VALUE}) {
                CHECKS.due("no such set", x.line(set, 0), BAD);
                CHECKS.due("no such set", x.back(set, 0), BAD);
            }
        }
    }

    /** "SENT behind it (in STRETCH i or later ..) and RECEIVED ahead of it (in a STRETCH lower ..)" */
    private static void sentBehindReceivedAhead() {
        // 0 fails at its state 1; the message was sent in stretch 0 or 1.
        CHECKS.dueRow("sent in stretch 1", Checks.line(Checks.laid("n2;c0;s01;r00;"), 1), 1, 0);
        CHECKS.dueRow("sent in stretch 0", Checks.line(Checks.laid("n2;s01;r00;c0;"), 1), 1, 1);
        // 1 fails, too, at its state 1; the message was received in stretch 0 or 1.
        CHECKS.dueRow("received in stretch 0",
                Checks.line(Checks.laid("n2;c0;s01;r00;c1;"), 3), 1, 0);
        CHECKS.dueRow("received in stretch 1",
                Checks.line(Checks.laid("n2;c0;s01;c1;r00;"), 3), 1, 1);
        CHECKS.dueRow("received in stretch 1, K is 2",
                Checks.line(Checks.laid("n2;c0;s01;c1;r00;"), 1), 1, 1);
        // By picks: the state of 1 is 2, the message was received in stretch 1, sent in stretch 1.
        ZigzagLines x = Checks.laid("n2;c0;c1;s01;r00;c1;c0;");
        int[][] rows = {{0, 1, 1}, {0, 2, 0}, {1, 1, 1}, {1, 2, 0}, {1, 3, 0}, {2, 2, 1}, {2, 3, 1},
            {3, 3, 1}, {2, 0, 1}, {0, 0, 1}, {1, 0, 1}};
        for (int[] row : rows) {
            x.unpick();
            x.pick(0, row[0]);
            x.pick(1, row[1]);
            String told = "line of " + row[0] + " and " + row[1];
            CHECKS.due(told, x.through(0, 0), row[2] == 1 ? row[0] : NONE);
            CHECKS.due(told, x.through(1, 1), row[2] == 1 ? row[1] : NONE);
        }
    }

    /** "goes back to the lowest STRETCH of those RECEIVINGS" */
    private static void lowestStretchOfARound() {
        ZigzagLines x = Checks.laid("n2;s01;s01;s01;c0;s01;c1;s01;c1;s01;r04;r05;c1;r03;c1;");
        CHECKS.dueRow("those sent behind alone", Checks.line(x, 1), 1, 2);
        CHECKS.dueRow("in one round", Checks.back(x, 1), 1, 2, 3, 0, 0);
        ZigzagLines y = Checks.laid("n2;c0;s01;s01;s01;c1;r02;c1;r00;c1;r01;");
        CHECKS.dueRow("the lowest, not the first", Checks.line(y, 1), 1, 1);
        CHECKS.due("in one round", y.back(1, 0), 1);
    }

    /** "(as states were ahead of the ROUND)" */
    private static void statesAheadOfTheRound() {
        // 0 undoes 1, 1 undoes 2, 2 undoes 3: a round each, in whatever order they were sent.
        ZigzagLines x = Checks.laid("n4;c0;s01;r00;s12;r01;s23;r02;");
        CHECKS.dueRow("0 fails", Checks.line(x, 1), 1, 0, 0, 0);
        CHECKS.due("three rounds", x.back(1, 0), 3);
        ZigzagLines y = Checks.laid("n4;s23;r00;s12;r01;c0;s01;r02;");
        CHECKS.dueRow("0 fails", Checks.line(y, 1), 1, 0, 0, 0);
        CHECKS.due("three rounds, too", y.back(1, 0), 3);
        CHECKS.due("two", y.back(2, 0), 2);
        CHECKS.due("one", y.back(4, 0), 1);
        CHECKS.due("none", y.back(8, 0), 0);
        CHECKS.due("all fail: none has to go", y.back(15, 0), 0);
        ZigzagLines z = Checks.laid("n5;c0;s01;s02;s03;s04;r00;r01;r02;r03;");
        CHECKS.due("four in one round", z.back(1, 0), 1);
        CHECKS.dueRow("all go", Checks.line(z, 1), 1, 0, 0, 0, 0);
    }

    private static void onlyReceivedOnesCross() {
        ZigzagLines x = Checks.laid("n2;c0;s01;");
        CHECKS.dueRow("under way", Checks.line(x, 1), 1, 1);
        CHECKS.dueRow("it would be gone", Checks.back(x, 1), 0, 0, 1, 0, 0);
        x.receive(0);
        CHECKS.dueRow("received", Checks.line(x, 1), 1, 0);
        CHECKS.dueRow("gone, not under way again", Checks.back(x, 1), 1, 0, 1, 0, 0);
        CHECKS.dueRow("under way again", Checks.back(x, 2), 0, 0, 0, 1, 0);
        x.fail(2);
        CHECKS.dueRow("under way again", Checks.line(x, 1), 1, 1);
        x.fail(1);
        CHECKS.dueRow("gone", Checks.line(x, 1), 1, 1);
        CHECKS.dueRow("not again", Checks.back(x, 1), 0, 0, 0, 0, 0);
    }

    /** back() tells what fail() would do. */
    private static void backNumbers() {
        for (int seed = 0; seed < 60; seed++) {
            for (int set = 1; set < 1 << 2 + seed % 4; set++) {
                ZigzagLines x = Checks.laid("n" + (2 + seed % 4) + ";m" + seed / 4 % 4 + ";");
                x.drive(seed * 151, 40);
                if (seed % 3 == 0) {
                    x.fail(1 << seed % 2);
                    x.drive(seed, 20);
                }
                backTellsFail("seed " + seed + " set " + set, x, set);
            }
        }
        ZigzagLines chain = FailingEdgesTest.longestChain();
        backTellsFail("longest chain", chain, 16);
    }

    private static void backTellsFail(String told, ZigzagLines x, int set) {
        int[] back = Checks.back(x, set);
        int[] line = Checks.line(x, set);
        int states = x.count(6);
        int gone = x.count(5);
        int received = x.count(4);
        int lostOfThem = 0;
        int goes = 0;
        int[] kept = new int[line.length];
        for (int p = 0; p < line.length; p++) {
            boolean mustGo = line[p] < x.process(p, 0);
            goes += mustGo ? 1 : 0;
            kept[p] = mustGo ? line[p] + 1 : x.process(p, 0);
        }
        for (int m = 0; m < x.count(2); m++) {
            boolean was = x.message(m, 5) == 1;
            lostOfThem += was && x.message(m, 2) >= line[x.message(m, 0)] ? 1 : 0;
        }
        CHECKS.due(told + " goes back", x.fail(set), goes);
        CHECKS.due(told + " states", states - x.count(6), back[1]);
        CHECKS.due(told + " gone", x.count(5) - gone, back[2]);
        CHECKS.due(told + " under way again", received - x.count(4) - lostOfThem, back[3]);
        for (int p = 0; p < line.length; p++) {
            CHECKS.due(told + " K", x.process(p, 0), kept[p]);
        }
    }

    /** "1: some PROCESS is at its SAVED state 0, though K was more than 1" */
    private static void beginsAnew() {
        ZigzagLines x = Checks.laid("n3;");
        CHECKS.due("K was 1", x.back(7, 4), 0);
        x.save(0);
        CHECKS.due("0 is at state 1", x.back(7, 4), 0);
        x.send(1, 0);
        x.receive(0);
        CHECKS.due("0 goes to state 1", x.back(2, 4), 0);
        ZigzagLines y = Checks.laid("n3;s10;r00;c0;");
        CHECKS.due("0 goes to state 0, K was 2", y.back(2, 4), 1);
        CHECKS.due("0 stays", y.back(1, 4), 0);
        CHECKS.due("none fails", y.back(0, 4), 0);
        ZigzagLines z = Checks.laid("n3;s12;r00;");
        CHECKS.due("2 goes to state 0, K was 1", z.back(2, 4), 0);
        z.save(2);
        CHECKS.due("K was 2, the last one", z.back(2, 4), 1);
    }

    /** "a SAVED state that is on the LINE for some set that FAILS now" */
    private static void neededStates() {
        // By 0 alone, by 2 alone or by both, 1 is at its state 2, 1 or, by both, 1.
        ZigzagLines x = Checks.laid("n3;c0;c2;c1;s21;r00;c1;s01;r01;c1;");
        CHECKS.dueRow("0 fails", Checks.line(x, 1), 1, 2, 2);
        CHECKS.dueRow("2 fails", Checks.line(x, 4), 2, 1, 1);
        CHECKS.dueRow("both fail", Checks.line(x, 5), 1, 1, 1);
        int[] needed = new int[4];
        for (int i = 0; i < 4; i++) {
            needed[i] = x.saved(1, i, 4);
        }
        CHECKS.dueRow("of 1", needed, 0, 1, 1, 1);
        CHECKS.dueRow("counts", new int[] {x.process(0, 5), x.process(1, 5), x.process(2, 5),
            x.count(9)}, 1, 3, 1, 5);
        // A state that is on a line only if 0 fails, and 1 does not; and so for 1.
        ZigzagLines only = Checks.laid("n2;s10;r00;c0;");
        CHECKS.dueRow("of 0", new int[] {only.saved(0, 0, 4), only.saved(0, 1, 4)}, 1, 1);
        CHECKS.due("in all", only.count(9), 3);
        only = Checks.laid("n2;s01;r00;c1;");
        CHECKS.dueRow("of 1", new int[] {only.saved(1, 0, 4), only.saved(1, 1, 4)}, 1, 1);
        CHECKS.due("in all", only.count(9), 3);
        ZigzagLines y = Checks.laid("n2;s01;r00;c0;c1;");
        CHECKS.due("each one's last", y.count(9), 2);
        CHECKS.due("the first ones", y.saved(0, 0, 4) + y.saved(1, 0, 4), 0);
        for (int n = 2; n <= 5; n++) {
            ZigzagLines alone = Checks.laid("n" + n + ";");
            CHECKS.due("all of them", alone.count(9), n);
        }
    }

    /** "is PICKED (in place of another one of it); how many are. BAD; NO: it is so." */
    private static void pickOneOfAProcess() {
        ZigzagLines x = Checks.laid("n5;c0;");
        for (int p = 0; p < 5; p++) {
            CHECKS.due("pick", x.pick(p, 0), p + 1);
            CHECKS.due("it is so", x.pick(p, 0), NO);
        }
        for (int p = 0; p < 5; p++) {
            CHECKS.due("in place of it", x.pick(p, 1), 5);
            CHECKS.due("it is so", x.pick(p, 1), NO);
        }
        CHECKS.due("no sixth", x.pick(5, 0), BAD);
        CHECKS.due("five are", x.count(11), 5);
        CHECKS.due("unpick", x.unpick(), 5);
        CHECKS.due("unpick of none", x.unpick(), 0);
        CHECKS.due("it can be picked again", x.pick(4, 1), 1);
        // Laying ends it, another number of processes or the same.
        CHECKS.due("lay", x.lay(), 5);
        CHECKS.due("unpick behind lay", x.unpick(), 0);
        CHECKS.due("it is not so", x.pick(4, 1), 1);
        x.wipe();
        Checks.write(x, "n2;");
        CHECKS.due("lay", x.lay(), 2);
        CHECKS.due("none is", x.count(11), 0);
        CHECKS.dueRow("through nothing", Checks.through(x, 0), 0, 0);
    }

    private static void pickAtTheEnds() {
        ZigzagLines x = Checks.laid("n2;" + "c1;".repeat(11));
        CHECKS.due("ahead of 0", x.pick(1, -1), BAD);
        CHECKS.due("none is PICKED by it", x.count(11), 0);
        CHECKS.due("0", x.pick(1, 0), 1);
        CHECKS.due("the last SAVED one", x.pick(1, 11), 1);
        CHECKS.due("K", x.pick(1, 12), 1);
        CHECKS.due("behind K", x.pick(1, 13), BAD);
        CHECKS.due("K is picked still", x.pick(1, 12), NO);
        CHECKS.dueRow("least", Checks.through(x, 0), 0, 12);
        CHECKS.dueRow("greatest", Checks.through(x, 1), 1, 12);
        // It goes by its number: what was K is a SAVED state later.
        ZigzagLines y = Checks.laid("n2;");
        CHECKS.due("K", y.pick(0, 1), 1);
        CHECKS.due("it saves", y.save(0), 2);
        CHECKS.dueRow("its state 1", Checks.through(y, 1), 1, 1);
        CHECKS.due("it is so", y.pick(0, 1), NO);
        CHECKS.due("K is another", y.pick(0, 2), 1);
    }

    /** "in which all other states are the earliest, the latest that can be" */
    private static void leastAndGreatest() {
        ZigzagLines x = Checks.laid("n3;s01;c0;r00;c1;s12;c1;r01;c2;c0;");
        CHECKS.dueRow("least of all", Checks.through(x, 0), 0, 0, 0);
        CHECKS.dueRow("greatest of all", Checks.through(x, 1), 3, 3, 2);
        x.pick(1, 0);
        CHECKS.dueRow("least through 1's 0", Checks.through(x, 0), 0, 0, 0);
        CHECKS.dueRow("greatest through 1's 0", Checks.through(x, 1), 3, 0, 0);
        x.pick(1, 1);
        CHECKS.dueRow("least through 1's 1", Checks.through(x, 0), 1, 1, 0);
        CHECKS.dueRow("greatest through 1's 1", Checks.through(x, 1), 3, 1, 0);
        x.pick(1, 2);
        CHECKS.dueRow("least through 1's 2", Checks.through(x, 0), 1, 2, 0);
        CHECKS.dueRow("greatest through 1's 2", Checks.through(x, 1), 3, 2, 2);
        x.pick(2, 1);
        CHECKS.dueRow("least through both", Checks.through(x, 0), 1, 2, 1);
        CHECKS.dueRow("greatest through both", Checks.through(x, 1), 3, 2, 1);
        x.unpick();
        x.pick(0, 0);
        CHECKS.dueRow("least through 0's 0", Checks.through(x, 0), 0, 0, 0);
        CHECKS.dueRow("greatest through 0's 0", Checks.through(x, 1), 0, 0, 0);
        // From the last of a row of causes back to its first, and over zigzags in both orders.
        ZigzagLines causes = Checks.laid("n5;s01;r00;s12;r01;s23;r02;s34;r03;c4;c3;c2;c1;c0;");
        causes.pick(4, 1);
        CHECKS.dueRow("least, by four", Checks.through(causes, 0), 1, 1, 1, 1, 1);
        ZigzagLines zigzag = Checks.laid("n5;s34;r00;s23;r01;s12;r02;s01;r03;c4;c3;c2;c1;c0;");
        zigzag.pick(4, 1);
        CHECKS.dueRow("least, by four", Checks.through(zigzag, 0), 1, 1, 1, 1, 1);
    }

    private static void throughAll() {
        ZigzagLines x = Checks.laid("n2;s01;r00;c0;c1;");
        for (int i = 0; i <= 2; i++) {
            for (int j = 0; j <= 2; j++) {
                x.unpick();
                x.pick(0, i);
                x.pick(1, j);
                boolean line = i > 0 || j == 0;
                for (int which = 0; which <= 1; which++) {
                    CHECKS.dueRow("through " + i + " and " + j, Checks.through(x, which),
                            line ? i : NONE, line ? j : NONE);
                }
            }
        }
        CHECKS.due("which -1", x.through(-1, 0), BAD);
        CHECKS.due("which 2", x.through(2, 0), BAD);
        CHECKS.due("p -1", x.through(0, -1), BAD);
        CHECKS.due("p 2", x.through(1, 2), BAD);
    }

    /** "NONE: there is no LINE." */
    private static void noLineAtAll() {
        ZigzagLines x = FailingEdgesTest.longestChain();
        for (int p = 0; p < 5; p++) {
            for (int i = 0; i <= 12; i++) {
                x.unpick();
                x.pick(p, i);
                boolean line = i == 0 || i == 12;
                for (int which = 0; which <= 1; which++) {
                    CHECKS.due("through " + p + " " + i, x.through(which, p), line ? i : NONE);
                }
                CHECKS.due("just the idle ones", i == 12 ? 0 : x.saved(p, i, 3), line ? 0 : 1);
            }
        }
    }

    /** "NO: a PICKED state's number is above K now (behind fail(); it goes by its number alone)" */
    private static void aboveK() {
        ZigzagLines x = Checks.laid("n3;s01;r00;c1;c1;c2;");
        x.pick(0, 1);
        x.pick(1, 3);
        CHECKS.dueRow("K is 3", Checks.through(x, 1), 1, 3, 2);
        CHECKS.due("0 fails", x.fail(1), 2);
        CHECKS.due("K is 1", x.process(1, 0), 1);
        for (int k = 1; k <= 2; k++) {
            CHECKS.dueRow("above K", Checks.through(x, 0), NO, NO, NO);
            CHECKS.dueRow("above K", Checks.through(x, 1), NO, NO, NO);
            CHECKS.due("BAD ahead of NO", x.through(0, 3), BAD);
            CHECKS.due("BAD ahead of NO", x.through(-1, 0), BAD);
            CHECKS.due("two are PICKED", x.count(11), 2);
            CHECKS.due("it saves", x.save(1), k + 1);
        }
        CHECKS.dueRow("at K", Checks.through(x, 0), 1, 3, 0);
        CHECKS.due("another in place of it", x.pick(1, 0), 2);
        CHECKS.dueRow("through that", Checks.through(x, 0), 1, 0, 0);
        // It may be a state of any process, and none that is asked for.
        for (int p = 0; p < 5; p++) {
            ZigzagLines each = Checks.laid("n5;");
            int q = (p + 1) % 5;
            each.send(q, p);
            each.receive(0);
            each.save(p);
            each.pick(p, 2);
            CHECKS.due("at K", each.through(1, p), 2);
            each.fail(1 << q);
            CHECKS.dueRow("above K: " + p, Checks.through(each, 1), NO, NO, NO, NO, NO);
            each.pick(p, 1);
            CHECKS.dueRow("at K again", Checks.through(each, 1), 1, 1, 1, 1, 1);
        }
        // The two that are not above K have no line, but NO comes ahead of NONE.
        ZigzagLines z = Checks.laid("n3;s01;r00;c1;c1;c0;s12;r01;c2;c2;");
        z.pick(0, 0);
        z.pick(1, 1);
        z.pick(2, 3);
        CHECKS.due("NONE", z.through(0, 1), NONE);
        CHECKS.due("1 takes 2 along", z.fail(2), 2);
        CHECKS.due("NO ahead of NONE", z.through(0, 1), NO);
        CHECKS.due("NO ahead of NONE", z.through(1, 0), NO);
        z.pick(2, 0);
        CHECKS.due("NONE then", z.through(1, 0), NONE);
    }

    /** The least line through one state may have to go on to the last states of all others. */
    private static void farAlongTheLine() {
        ZigzagLines x = Checks.laid("n5;s40;r00;c0;");
        for (int m = 1; m <= 48; m++) {
            int receiver = 4 - (m - 1) % 4;
            x.send(receiver == 1 ? 4 : receiver - 1, receiver);
            x.receive(m);
            x.save(receiver);
        }
        CHECKS.due("12 states of each but 0", x.count(6), 50);
        CHECKS.due("pick", x.pick(0, 1), 1);
        CHECKS.dueRow("least", Checks.through(x, 0), 1, 12, 12, 12, 12);
        CHECKS.dueRow("greatest", Checks.through(x, 1), 1, 12, 12, 12, 12);
        CHECKS.due("pick", x.pick(0, 0), 1);
        CHECKS.dueRow("least", Checks.through(x, 0), 0, 0, 0, 0, 0);
        CHECKS.dueRow("greatest", Checks.through(x, 1), 0, 12, 12, 12, 12);
        CHECKS.due("pick", x.pick(1, 0), 2);
        CHECKS.dueRow("greatest", Checks.through(x, 1), 0, 0, 0, 0, 0);
    }
}
