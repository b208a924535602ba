/** What processes do, at its limits: MODES, MARKS, what they KNOW, saving, sending, receiving. */
public final class DoingEdgesTest {
    private static final Checks CHECKS = new Checks("DoingEdgesTest");
    private static final int BAD = ZigzagLines.BAD;
    private static final int NO = ZigzagLines.NO;
    private static final int FULL = ZigzagLines.FULL;
    private static final int NONE = ZigzagLines.NONE;

    public static void main(String[] args) {
        modeToMode();
        markAndKnowledgeAtFirst();
        carriedAsWhenSent();
        twelveStates();
        sixtyMessages();
        sentInTheStretchThatGoesOn();
        modeZeroForcesNone();
        modeOneByMark();
        modeTwoByKnowledge();
        modeThreeBySending();
        forcedAheadOfReceiving();
        forcedAtElevenAndTwelve();
        CHECKS.end();
    }

    /** "MODE: which it was. BAD; NO: it is so." */
    private static void modeToMode() {
        for (int from = 0; from <= 3; from++) {
            for (int to = 0; to <= 3; to++) {
                ZigzagLines x = Checks.laid("n2;m" + from + ";");
                CHECKS.due("mode " + from + " to " + to, x.mode(to), from == to ? NO : from);
                CHECKS.due("it is so", x.count(1), to);
                CHECKS.due("it is so: NO", x.mode(to), NO);
                CHECKS.due("BAD below", x.mode(-1), BAD);
                CHECKS.due("BAD above", x.mode(4), BAD);
                CHECKS.due("it stays so", x.count(1), to);
            }
        }
    }

    /** "a MARK (0 at first)"; "of itself the one that goes on, of others none at first" */
    private static void markAndKnowledgeAtFirst() {
        for (int n = 2; n <= 5; n++) {
            ZigzagLines x = Checks.laid("n" + n + ";");
            for (int p = 0; p < n; p++) {
                CHECKS.dueRow("process at first", Checks.process(x, p), 1, 0, 0, 0, 0, 1, 0);
                CHECKS.dueRow("state 0", Checks.saved(x, p, 0), 0, 0, 0, 0, 1);
                for (int q = 0; q < n; q++) {
                    CHECKS.due("kept with state 0", x.knows(p, 0, q), p == q ? 0 : NONE);
                    CHECKS.due("now", x.knows(p, 1, q), p == q ? 0 : NONE);
                }
                CHECKS.due("nothing behind K", x.knows(p, 2, p), BAD);
            }
            CHECKS.dueRow("counts", Checks.counts(x), n, 0, 0, 0, 0, 0, n, 0, 0, n, 0, 0, 3);
        }
        ZigzagLines x = Checks.laid("n2;s01;r00;c0;");
        CHECKS.dueRow("known behind the save", Checks.knows(x, 0, 1), 1, NONE);
        CHECKS.dueRow("1 knows stretch 0, not none", Checks.knows(x, 1, 1), 0, 0);
        CHECKS.dueRow("with its state 0 none is kept", Checks.knows(x, 1, 0), NONE, 0);
    }

    /** "a MESSAGE carries both as they are when it is SENT" */
    private static void carriedAsWhenSent() {
        ZigzagLines x = Checks.laid("n3;s20;s01;c0;r00;c2;s20;r02;c0;");
        CHECKS.due("MARK when sent", x.message(1, 4), 0);
        CHECKS.due("stretch when sent", x.message(1, 2), 0);
        CHECKS.due("received late", x.receive(1), 0);
        CHECKS.dueRow("1 knows what 0 knew then", Checks.knows(x, 1, 1), 0, 0, NONE);
        x.send(0, 1);
        x.receive(3);
        CHECKS.dueRow("1 knows what 0 knows now", Checks.knows(x, 1, 1), 2, 0, 1);
        CHECKS.due("MARK of the later one", x.message(3, 4), 2);
        // The later of both: an old message takes nothing away, of itself it learns nothing.
        ZigzagLines y = Checks.laid("n2;s01;s10;c0;s01;r02;r00;c1;c1;r01;s01;r03;");
        CHECKS.dueRow("1 knows the later", Checks.knows(y, 1, 3), 1, 2);
        CHECKS.dueRow("0 knows what was sent", Checks.knows(y, 0, 2), 1, 0);
    }

    /** "(12 at most, 0 to 11)"; "It SAVES: K. BAD; FULL: 12." */
    private static void twelveStates() {
        for (int n = 2; n <= 5; n++) {
            ZigzagLines x = Checks.laid("n" + n + ";");
            for (int p = 0; p < n; p++) {
                for (int k = 2; k <= 12; k++) {
                    CHECKS.due("save up to 12", x.save(p), k);
                }
                CHECKS.due("the 13th", x.save(p), FULL);
                CHECKS.dueRow("process with 12", Checks.process(x, p), 12, 11, 0, 0, 0, 1, 0);
                CHECKS.dueRow("state 11", Checks.saved(x, p, 11), 11, 0, 0, 0, 1);
                CHECKS.dueRow("state 10", Checks.saved(x, p, 10), 10, 0, 0, 0, 0);
                CHECKS.due("state 12 is not SAVED", x.saved(p, 12, 0), BAD);
                CHECKS.due("it knows itself now", x.knows(p, 12, p), 11);
                CHECKS.due("and with state 11", x.knows(p, 11, p), 11);
                CHECKS.due("there is none behind 12", x.knows(p, 13, p), BAD);
                CHECKS.due("12 is picked", x.pick(p, 12), p + 1);
                CHECKS.due("13 is not", x.pick(p, 13), BAD);
            }
            CHECKS.due("BAD, though all are FULL", x.save(n), BAD);
            CHECKS.due("BAD, though all are FULL", x.save(-1), BAD);
            CHECKS.due("all states", x.count(6), 12 * n);
            CHECKS.due("all marks go on by sending", x.send(0, n - 1), 0);
            CHECKS.dueRow("sent in stretch 11", Checks.message(x, 0), 0, n - 1, 11, NONE, 11, 0);
            CHECKS.due("received in stretch 11", x.receive(0) * 100 + x.message(0, 3), 11);
        }
    }

    /** "(60 at most since LAID)"; "its number. BAD (a and b one, too); FULL: 60." */
    private static void sixtyMessages() {
        ZigzagLines x = Checks.laid("n5;");
        for (int m = 0; m < 60; m++) {
            CHECKS.due("not there yet", x.message(m, 0), BAD);
            CHECKS.due("send", x.send(m % 5, (m + 1 + m / 5 % 4) % 5), m);
            CHECKS.due("under way", x.underway(m), m);
            CHECKS.due("no more are", x.underway(m + 1), NONE);
            CHECKS.due("how many are", x.underway(-1), m + 1);
        }
        CHECKS.due("the 61st", x.send(0, 1), FULL);
        CHECKS.due("BAD ahead of FULL", x.send(4, 4), BAD);
        CHECKS.due("BAD ahead of FULL", x.send(5, 0), BAD);
        CHECKS.due("BAD ahead of FULL", x.send(0, -1), BAD);
        CHECKS.due("60 are", x.count(2), 60);
        CHECKS.due("59 is one", x.message(59, 0), 4);
        CHECKS.due("60 is none", x.message(60, 0), BAD);
        CHECKS.due("59 is received", x.receive(59), 0);
        CHECKS.due("60 is none", x.receive(60), BAD);
        for (int m = 0; m < 59; m++) {
            CHECKS.due("receive", x.receive(m), 0);
        }
        CHECKS.dueRow("none is under way", Checks.underway(x));
        CHECKS.due("not the first", x.underway(0), NONE);
        CHECKS.due("FULL still", x.send(0, 1), FULL);
        CHECKS.due("they fail", x.fail(31), 5);
        CHECKS.due("all are gone", x.count(5), 60);
        CHECKS.due("FULL still", x.send(0, 1), FULL);
        CHECKS.due("laid anew", x.lay(), 5);
        CHECKS.due("there is room", x.send(0, 1), 0);
        CHECKS.due("in a stretch without a message ahead", x.process(0, 6), 1);
    }

    /** "MESSAGES SENT in the STRETCH that goes on" */
    private static void sentInTheStretchThatGoesOn() {
        ZigzagLines x = Checks.laid("n3;");
        for (int m = 0; m < 30; m++) {
            x.send(0, 1 + m % 2);
            CHECKS.due("sent by 0", x.process(0, 6), m + 1);
        }
        CHECKS.due("sent by 1", x.process(1, 6), 0);
        x.receive(0);
        CHECKS.due("received ones count", x.process(0, 6), 30);
        CHECKS.due("receiving is not sending", x.process(1, 6), 0);
        x.save(1);
        CHECKS.due("another one's save", x.process(0, 6), 30);
        x.save(0);
        CHECKS.due("its own save", x.process(0, 6), 0);
        x.send(0, 1);
        CHECKS.due("one in stretch 1", x.process(0, 6), 1);
        x.fail(2);
        CHECKS.due("another one fails", x.process(0, 6), 1);
        x.fail(1);
        CHECKS.due("it fails: what it sent is gone", x.process(0, 6), 0);
    }

    private static int received(String text) {
        ZigzagLines x = Checks.laid(text);
        return x.receive(x.count(2) - 1);
    }

    private static void modeZeroForcesNone() {
        CHECKS.due("by MARK", received("n2;c0;c0;s01;"), 0);
        CHECKS.due("by sending", received("n2;s10;s01;"), 0);
        CHECKS.due("by all", received("n2;s10;c0;s01;"), 0);
        CHECKS.due("MODE 0 again", received("n2;m3;m0;s10;c0;s01;"), 0);
    }

    /** "FORCED, if the MESSAGE's MARK is more than its own; its MARK is that of the MESSAGE then." */
    private static void modeOneByMark() {
        CHECKS.due("one more", received("n2;m1;c0;s01;"), 1);
        CHECKS.due("both 0", received("n2;m1;s01;"), 0);
        CHECKS.due("both 1", received("n2;m1;c0;c1;s01;"), 0);
        CHECKS.due("one less", received("n2;m1;c0;c1;c1;s01;"), 0);
        CHECKS.due("sending is no matter", received("n2;m1;s10;s01;"), 0);
        CHECKS.due("as when sent, not now", received("n2;s01;c0;m1;"), 0);
        CHECKS.due("its own as now", received("n2;c0;s01;c1;m1;"), 0);
        ZigzagLines one = Checks.laid("n2;m1;c0;s01;r00;");
        CHECKS.dueRow("by 1", Checks.process(one, 1), 2, 1, 1, 0, 0, 1, 0);
        ZigzagLines far = Checks.laid("n2;m1;" + "c0;".repeat(11) + "s01;r00;");
        CHECKS.dueRow("by 11", Checks.process(far, 1), 2, 11, 1, 0, 0, 1, 0);
        CHECKS.dueRow("kept", Checks.saved(far, 1, 1), 11, 1, 0, 0, 1);
        CHECKS.due("then 1 more", far.save(1) * 100 + far.process(1, 1), 312);
        CHECKS.dueRow("not forced", Checks.saved(far, 1, 2), 12, 0, 0, 0, 1);
        ZigzagLines less = Checks.laid("n2;m1;s01;c1;c1;r00;");
        CHECKS.due("a lower MARK takes none away", less.process(1, 1), 2);
    }

    /** "carries of some other PROCESS a later STRETCH than it KNOWS" */
    private static void modeTwoByKnowledge() {
        CHECKS.due("sent, and knows none", received("n2;m2;s10;s01;"), 1);
        CHECKS.due("not sent", received("n2;m2;s01;"), 0);
        CHECKS.due("sent in the stretch ahead", received("n2;m2;s10;c1;s01;"), 0);
        CHECKS.due("sent and received there", received("n2;m2;s10;r00;s01;"), 1);
        CHECKS.due("another one sent", received("n3;m2;s21;s01;"), 0);
        CHECKS.due("the same stretch", received("n2;m2;s01;r00;s10;s01;"), 0);
        CHECKS.due("a later stretch", received("n2;m2;s01;r00;s10;c0;s01;"), 1);
        ZigzagLines x = Checks.laid("n2;m2;s01;c0;s01;r01;s10;");
        CHECKS.due("an earlier stretch", x.receive(0), 0);
        // Of 0 it knows the stretch, but not of 2, from which 0 has heard; then an earlier one of 2.
        CHECKS.due("a later one of a third",
                received("n3;s21;r00;s01;r01;c2;s20;r02;s10;m2;s01;"), 1);
        CHECKS.due("the same one of a third",
                received("n3;s21;r00;s01;r01;s20;r02;s10;m2;s01;"), 0);
        ZigzagLines y = Checks.laid("n3;s01;r00;s10;s20;r02;m2;s01;");
        CHECKS.due("none known of a third", y.receive(3), 1);
        CHECKS.dueRow("now it knows", Checks.knows(y, 1, 2), 0, 1, 0);
        // What 0 knows of 1 is no news to 1.
        ZigzagLines z = Checks.laid("n2;s01;r00;s10;r01;m2;s10;s01;");
        CHECKS.due("of itself alone", z.receive(3), 0);
        CHECKS.due("MARKS are no matter", received("n2;s01;r00;c1;s10;m2;s01;"), 0);
    }

    private static void modeThreeBySending() {
        CHECKS.due("not sent", received("n2;m3;c0;s01;"), 0);
        CHECKS.due("sent", received("n2;m3;s10;s01;"), 1);
        CHECKS.due("sent to a third", received("n3;m3;s12;s01;"), 1);
        CHECKS.due("sent, and received there", received("n2;m3;s10;r00;s01;"), 1);
        CHECKS.due("another one sent", received("n3;m3;s20;s01;"), 0);
        CHECKS.due("sent in the stretch ahead", received("n2;m3;s10;c1;s01;"), 0);
        CHECKS.due("nothing new is known", received("n2;s01;r00;s10;m3;s01;"), 1);
        ZigzagLines x = Checks.laid("n2;m3;c1;s10;s01;s01;");
        CHECKS.due("forced", x.receive(1), 1);
        CHECKS.dueRow("its MARK is 1 more", Checks.process(x, 1), 3, 2, 1, 0, 0, 1, 0);
        CHECKS.due("not twice", x.receive(2), 0);
    }

    /** "first, if the MODE is so, the PROCESS is FORCED to SAVE ahead of it; then it KNOWS" */
    private static void forcedAheadOfReceiving() {
        for (int mode = 1; mode <= 3; mode++) {
            ZigzagLines x = Checks.laid("n3;c0;s10;s01;m" + mode + ";");
            CHECKS.due("forced", x.receive(1), 1);
            CHECKS.due("received in the new stretch", x.message(1, 3), 1);
            CHECKS.dueRow("kept ahead of it", Checks.knows(x, 1, 1), NONE, 1, NONE);
            CHECKS.dueRow("known behind it", Checks.knows(x, 1, 2), 1, 1, NONE);
            CHECKS.dueRow("state 1 was forced", Checks.saved(x, 1, 1), 1, 1, 0, 0, 1);
            CHECKS.dueRow("state 0 was not", Checks.saved(x, 1, 0), 0, 0, 0, 0, 0);
            CHECKS.dueRow("counts", Checks.counts(x),
                    3, mode, 2, 1, 1, 0, 5, 1, 0, 3, 0, 0, 17);
            // A message that does not force is received in the stretch that goes on.
            x.send(0, 1);
            CHECKS.due("not forced", x.receive(2), 0);
            CHECKS.due("in the same stretch", x.message(2, 3), 1);
        }
    }

    /** "FULL: it would be FORCED, and K is 12." */
    private static void forcedAtElevenAndTwelve() {
        for (int saves = 9; saves <= 11; saves++) {
            for (int mode = 2; mode <= 3; mode++) {
                ZigzagLines x = Checks.laid("n2;" + "c1;".repeat(saves) + "s10;s01;m" + mode + ";");
                CHECKS.due("forced with " + (saves + 1), x.receive(1), saves < 11 ? 1 : FULL);
                CHECKS.due("K", x.process(1, 0), Math.min(saves + 2, 12));
                CHECKS.due("under way", x.message(1, 5), saves < 11 ? 1 : 0);
            }
            ZigzagLines x = marked(saves);
            CHECKS.due("forced by MARK with " + (saves + 1), x.receive(1), saves < 11 ? 1 : FULL);
            CHECKS.due("its MARK", x.process(1, 1), saves < 11 ? 12 : 11);
            CHECKS.due("under way", x.message(1, 5), saves < 11 ? 1 : 0);
        }
        String eleven = "n2;" + "c1;".repeat(11);
        CHECKS.due("K is 12, not forced in MODE 0", received(eleven + "s10;s01;"), 0);
        CHECKS.due("K is 12, not forced in MODE 1", received(eleven + "m1;c0;s01;"), 0);
        CHECKS.due("K is 12, not forced in MODE 2", received(eleven + "m2;s01;"), 0);
        CHECKS.due("K is 12, not forced in MODE 3", received(eleven + "m3;s01;"), 0);
        CHECKS.due("K of its sender is 12", received("n2;" + "c0;".repeat(11) + "m3;s10;s01;"), 1);
        ZigzagLines x = Checks.laid(eleven + "s01;s10;m3;");
        CHECKS.due("FULL", x.receive(0), FULL);
        CHECKS.due("it fails", x.fail(2), 1);
        CHECKS.due("what it had sent is gone", x.receive(0), 0);
        CHECKS.due("NO ahead of FULL", x.receive(1), NO);
    }

    /** 0 has the mark 12 and has sent message 1 to 1, which has saved so often. */
    private static ZigzagLines marked(int saves) {
        ZigzagLines x = Checks.laid("n3;m1;" + "c2;".repeat(11) + "c1;".repeat(saves));
        x.send(2, 0);
        x.receive(0);
        x.save(0);
        CHECKS.due("the MARK of 0", x.process(0, 1), 12);
        CHECKS.due("it sends", x.send(0, 1), 1);
        return x;
    }
}
