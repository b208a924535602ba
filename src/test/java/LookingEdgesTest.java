/** What is looked at, at its limits: promises 13 to 19, and 25. */
public final class LookingEdgesTest {
    private static final Checks CHECKS = new Checks("LookingEdgesTest");
    private static final int BAD = ZigzagLines.BAD;
    private static final int NONE = ZigzagLines.NONE;

    public static void main(String[] args) {
        statesUpToK();
        keptAndNow();
        processCounts();
        savedStates();
        messageStages();
        underWayByPlace();
        wayFromThatStretchOn();
        wayToALowerStretch();
        wayOnInThatStretchOrLater();
        causeBehindTheReceiving();
        fewestOfSeveral();
        longestWay();
        wayToItself();
        wayOverMessagesThatAre();
        idleStates();
        countsAtTheEdges();
        CHECKS.end();
    }

    /** "states 0 to K"; "(i = K: now)"; "Of a SAVED state" */
    private static void statesUpToK() {
        for (int saves = 0; saves <= 11; saves++) {
            ZigzagLines x = Checks.laid("n2;" + "c1;".repeat(saves));
            int k = saves + 1;
            CHECKS.due("K", x.process(1, 0), k);
            for (int i = -1; i <= k + 1; i++) {
                boolean state = i >= 0 && i <= k;
                CHECKS.due("knows at " + i, x.knows(1, i, 1), state ? Math.min(i, k - 1) : BAD);
                CHECKS.due("saved at " + i, x.saved(1, i, 0), state && i < k ? i : BAD);
                CHECKS.due("way from " + i, x.way(1, i, 0, 0), state ? NONE : BAD);
                CHECKS.due("way to " + i, x.way(0, 0, 1, i), state ? NONE : BAD);
                CHECKS.due("cause from " + i, x.cause(1, i, 0, 0), state ? NONE : BAD);
                CHECKS.due("cause to " + i, x.cause(0, 0, 1, i), state ? NONE : BAD);
            }
        }
    }

    /** "The STRETCH of q that p KNOWS, as kept with its SAVED state i (i = K: now). BAD; NONE." */
    private static void keptAndNow() {
        ZigzagLines x = Checks.laid("n3;s01;c1;r00;c1;c0;c0;s01;r01;");
        CHECKS.dueRow("with state 0", Checks.knows(x, 1, 0), NONE, 0, NONE);
        CHECKS.dueRow("with state 1", Checks.knows(x, 1, 1), NONE, 1, NONE);
        CHECKS.dueRow("with state 2", Checks.knows(x, 1, 2), 0, 2, NONE);
        CHECKS.dueRow("now", Checks.knows(x, 1, 3), 2, 2, NONE);
        CHECKS.due("behind now", x.knows(1, 4, 0), BAD);
        CHECKS.due("BAD ahead of NONE: no process", x.knows(1, 0, 3), BAD);
        CHECKS.due("BAD ahead of NONE: no state", x.knows(1, 4, 2), BAD);
        CHECKS.due("BAD ahead of NONE: no process", x.knows(3, 0, 2), BAD);
        x.save(1);
        CHECKS.dueRow("what was now is kept", Checks.knows(x, 1, 3), 2, 3, NONE);
        CHECKS.dueRow("and is so now", Checks.knows(x, 1, 4), 2, 3, NONE);
    }

    private static void processCounts() {
        // 1 is forced twice, saves twice; its states 0 to 2 are freed.
        ZigzagLines x = Checks.laid("n2;m3;s10;s01;r01;c1;s10;s01;r03;c1;");
        CHECKS.dueRow("1 ahead of gather", Checks.process(x, 1), 5, 4, 2, 0, 0, 2, 0);
        CHECKS.due("0 goes back to its beginning", x.line(3, 0), 0);
        CHECKS.due("so does 1, to its first forced state", x.line(3, 1), 1);
        CHECKS.due("gather", x.gather(), 1);
        CHECKS.dueRow("1 behind gather", Checks.process(x, 1), 5, 4, 2, 1, 0, 2, 0);
        x.save(0);
        CHECKS.due("gather", x.gather(), 4);
        CHECKS.dueRow("1 then", Checks.process(x, 1), 5, 4, 2, 4, 0, 1, 0);
        CHECKS.dueRow("0 then", Checks.process(x, 0), 2, 1, 0, 1, 0, 1, 0);
        CHECKS.due("forced in all", x.count(7), 2);
        CHECKS.due("freed in all", x.count(10), 5);
        CHECKS.due("needed in all", x.count(9), 2);
        x.send(1, 0);
        x.fail(2);
        CHECKS.dueRow("1 behind fail", Checks.process(x, 1), 5, 4, 2, 4, 0, 1, 0);
    }

    private static void savedStates() {
        ZigzagLines x = Checks.laid("n2;m3;s10;s01;r01;c1;s10;s01;r03;c1;");
        CHECKS.dueRow("1 at 0", Checks.saved(x, 1, 0), 0, 0, 0, 0, 0);
        CHECKS.dueRow("1 at 1", Checks.saved(x, 1, 1), 1, 1, 0, 0, 1);
        CHECKS.dueRow("1 at 2", Checks.saved(x, 1, 2), 2, 0, 0, 0, 0);
        CHECKS.dueRow("1 at 3", Checks.saved(x, 1, 3), 3, 1, 0, 0, 0);
        CHECKS.dueRow("1 at 4", Checks.saved(x, 1, 4), 4, 0, 0, 0, 1);
        for (int what = 0; what <= 4; what++) {
            CHECKS.due("at K", x.saved(1, 5, what), BAD);
            CHECKS.due("ahead of 0", x.saved(1, -1, what), BAD);
            CHECKS.due("of none", x.saved(2, 0, what), BAD);
        }
        CHECKS.due("what -1", x.saved(1, 0, -1), BAD);
        CHECKS.due("what 5", x.saved(1, 0, 5), BAD);
    }

    /** "RECEIVED (3; NONE: it is not, or is GONE)"; "0: UNDER WAY, 1: RECEIVED, 2: GONE" */
    private static void messageStages() {
        ZigzagLines x = Checks.laid("n3;c0;s01;c1;");
        CHECKS.dueRow("under way", Checks.message(x, 0), 0, 1, 1, NONE, 1, 0);
        x.receive(0);
        CHECKS.dueRow("received", Checks.message(x, 0), 0, 1, 1, 1, 1, 1);
        x.fail(2);
        CHECKS.dueRow("under way again", Checks.message(x, 0), 0, 1, 1, NONE, 1, 0);
        x.save(1);
        x.receive(0);
        CHECKS.dueRow("received later", Checks.message(x, 0), 0, 1, 1, 2, 1, 1);
        x.fail(1);
        CHECKS.dueRow("gone", Checks.message(x, 0), 0, 1, 1, NONE, 1, 2);
        x.fail(7);
        CHECKS.dueRow("gone for good", Checks.message(x, 0), 0, 1, 1, NONE, 1, 2);
        ZigzagLines first = Checks.laid("n2;s10;r00;");
        CHECKS.dueRow("received in stretch 0", Checks.message(first, 0), 1, 0, 0, 0, 0, 1);
        for (int what = 0; what <= 5; what++) {
            CHECKS.due("the next one", first.message(1, what), BAD);
            CHECKS.due("the one ahead", first.message(-1, what), BAD);
        }
        CHECKS.due("what -1", first.message(0, -1), BAD);
        CHECKS.due("what 6", first.message(0, 6), BAD);
    }

    /** "how many (i = -1). BAD (below -1); NONE: not so many." */
    private static void underWayByPlace() {
        ZigzagLines x = Checks.laid("n2;");
        for (int sent = 0; sent <= 3; sent++) {
            CHECKS.due("below -1", x.underway(-2), BAD);
            CHECKS.due("how many", x.underway(-1), sent);
            for (int i = 0; i < sent; i++) {
                CHECKS.due("the i-th", x.underway(i), i);
            }
            CHECKS.due("not so many", x.underway(sent), NONE);
            x.send(0, 1);
        }
        for (int m = 3; m >= 0; m--) {
            x.receive(m);
            CHECKS.due("how many are left", x.underway(-1), m);
            CHECKS.due("the last one is not", x.underway(m), NONE);
        }
    }

    /** "the first SENT by p in STRETCH i or a later one" */
    private static void wayFromThatStretchOn() {
        ZigzagLines x = Checks.laid("n2;c0;c0;s01;r00;c0;");
        for (int i = 0; i <= 4; i++) {
            CHECKS.due("way from " + i, x.way(0, i, 1, 1), i <= 2 ? 1 : NONE);
            CHECKS.due("cause from " + i, x.cause(0, i, 1, 1), i <= 2 ? 1 : NONE);
        }
        // Sent right ahead of the state, and right behind it.
        ZigzagLines ahead = Checks.laid("n2;s01;c0;r00;");
        CHECKS.due("right ahead", ahead.way(0, 1, 1, 1), NONE);
        CHECKS.due("right ahead", ahead.cause(0, 1, 1, 1), NONE);
        ZigzagLines behind = Checks.laid("n2;c0;s01;r00;");
        CHECKS.due("right behind", behind.way(0, 1, 1, 1), 1);
        CHECKS.due("right behind", behind.cause(0, 1, 1, 1), 1);
        ZigzagLines forced = Checks.laid("n2;m3;s01;s10;r00;r01;");
        CHECKS.due("right ahead of a forced one", forced.way(1, 1, 0, 2), NONE);
        CHECKS.due("right ahead of a forced one", forced.cause(1, 1, 0, 2), NONE);
        CHECKS.due("from the one ahead of it", forced.cause(1, 0, 0, 2), 1);
    }

    /** "the last one RECEIVED by q in a STRETCH lower than j" */
    private static void wayToALowerStretch() {
        ZigzagLines x = Checks.laid("n2;c1;c1;s01;r00;c1;");
        for (int j = 0; j <= 4; j++) {
            CHECKS.due("way to " + j, x.way(0, 0, 1, j), j >= 3 ? 1 : NONE);
            CHECKS.due("cause to " + j, x.cause(0, 0, 1, j), j >= 3 ? 1 : NONE);
        }
        // K is 12: the state that it is in now is the twelfth.
        ZigzagLines y = Checks.laid("n2;" + "c1;".repeat(11) + "s01;r00;");
        CHECKS.due("to 11", y.way(0, 0, 1, 11), NONE);
        CHECKS.due("to 12", y.way(0, 0, 1, 12), 1);
        CHECKS.due("to 13", y.way(0, 0, 1, 13), BAD);
        CHECKS.due("cause to 11", y.cause(0, 0, 1, 11), NONE);
        CHECKS.due("cause to 12", y.cause(0, 0, 1, 12), 1);
        CHECKS.due("cause to 13", y.cause(0, 0, 1, 13), BAD);
    }

    /** "each next one SENT by who RECEIVED the one ahead, in the STRETCH in which that was or a later" */
    private static void wayOnInThatStretchOrLater() {
        // 1 sends to 2 in stretch 1; it receives from 0 in stretch 0, 1 or 2.
        CHECKS.due("a later one", Checks.laid("n3;s01;r00;c1;s12;r01;").way(0, 0, 2, 1), 2);
        CHECKS.due("the same, behind", Checks.laid("n3;c1;s01;r00;s12;r01;").way(0, 0, 2, 1), 2);
        CHECKS.due("the same, ahead", Checks.laid("n3;c1;s12;r00;s01;r01;").way(0, 0, 2, 1), 2);
        CHECKS.due("an earlier one", Checks.laid("n3;c1;s12;r00;c1;s01;r01;").way(0, 0, 2, 1), NONE);
        // The same, as causes.
        CHECKS.due("a later one", Checks.laid("n3;s01;r00;c1;s12;r01;").cause(0, 0, 2, 1), 2);
        CHECKS.due("the same, behind", Checks.laid("n3;c1;s01;r00;s12;r01;").cause(0, 0, 2, 1), 2);
        CHECKS.due("the same, ahead", Checks.laid("n3;c1;s12;r00;s01;r01;").cause(0, 0, 2, 1), NONE);
        // Another one's message is no next one.
        CHECKS.due("by a third", Checks.laid("n4;s01;r00;s23;r01;").way(0, 0, 3, 1), NONE);
        CHECKS.due("back to the first", Checks.laid("n3;s01;r00;s10;r01;s02;r02;").way(1, 0, 2, 1), 2);
    }

    /** "It is a CAUSE, if each next one was SENT behind the RECEIVING of the one ahead." */
    private static void causeBehindTheReceiving() {
        ZigzagLines x = Checks.laid("n4;s01;r00;s12;s23;r02;r01;");
        CHECKS.due("the second step is zigzag", x.way(0, 0, 3, 1), 3);
        CHECKS.due("so it is no cause", x.cause(0, 0, 3, 1), NONE);
        CHECKS.due("up to it, it is", x.cause(0, 0, 2, 1), 2);
        CHECKS.due("from it, it is", x.cause(2, 0, 3, 1), 1);
        // The way that is shortest is no cause, a longer one is.
        ZigzagLines y = Checks.laid("n4;s13;s01;r01;s12;r02;s23;r03;r00;");
        CHECKS.due("zigzag by two", y.way(0, 0, 3, 1), 2);
        CHECKS.due("a cause by three", y.cause(0, 0, 3, 1), 3);
        ZigzagLines ring = Checks.laid("n5;s01;r00;s12;r01;s23;r02;s34;r03;s40;r04;");
        CHECKS.due("the longest cause", ring.cause(0, 0, 0, 1), 5);
        CHECKS.due("as a way it is no shorter", ring.way(0, 0, 0, 1), 5);
        // What was received anew behind fail() was received later.
        ZigzagLines anew = Checks.laid("n3;s01;r00;s12;");
        anew.fail(2);
        CHECKS.due("sent anew", anew.send(1, 2), 2);
        anew.receive(0);
        anew.receive(2);
        CHECKS.due("sent ahead of it now", anew.cause(0, 0, 2, 1), NONE);
        CHECKS.due("zigzag", anew.way(0, 0, 2, 1), 2);
        anew.send(1, 2);
        anew.receive(3);
        CHECKS.due("sent behind it", anew.cause(0, 0, 2, 1), 2);
    }

    private static void fewestOfSeveral() {
        ZigzagLines x = Checks.laid("n4;s01;s02;s03;r00;r01;s12;s23;r03;r04;c3;r02;");
        CHECKS.due("to 3's state 1", x.way(0, 0, 3, 1), 2);
        CHECKS.due("to 3 now", x.way(0, 0, 3, 2), 1);
        CHECKS.due("cause to 3's state 1", x.cause(0, 0, 3, 1), 2);
        CHECKS.due("cause to 3 now", x.cause(0, 0, 3, 2), 1);
        CHECKS.due("from 1", x.way(1, 0, 3, 1), 2);
        // 2 sent message 4 ahead of receiving message 3.
        CHECKS.due("from 1 no cause", x.cause(1, 0, 3, 1), NONE);
    }

    private static void longestWay() {
        ZigzagLines x = FailingEdgesTest.longestChain();
        CHECKS.due("from 1's last state by 59", x.way(1, 11, 0, 1), 59);
        CHECKS.due("from 1 now", x.way(1, 12, 0, 1), NONE);
        CHECKS.due("from 0's last state by 55", x.way(0, 11, 0, 1), 55);
        CHECKS.due("to its own last state by 5", x.way(0, 11, 0, 11), 5);
        CHECKS.due("to its state now", x.way(0, 11, 0, 12), 5);
        CHECKS.due("to a state 0", x.way(1, 11, 0, 0), NONE);
        CHECKS.due("no cause at all", x.cause(1, 11, 0, 12), NONE);
        CHECKS.due("but one by one message", x.cause(1, 11, 2, 12), 1);
    }

    /** "(p and q may be one)"; "RECEIVED MESSAGES (one at least)" */
    private static void wayToItself() {
        ZigzagLines x = Checks.laid("n2;s01;r00;s10;r01;c0;c1;");
        CHECKS.due("to its state 1", x.way(0, 0, 0, 1), 2);
        CHECKS.due("a cause", x.cause(0, 0, 0, 1), 2);
        CHECKS.due("to its state 0", x.way(0, 0, 0, 0), NONE);
        CHECKS.due("from its state 1", x.way(0, 1, 0, 2), NONE);
        CHECKS.due("1 to its state 1", x.way(1, 0, 1, 1), 2);
        CHECKS.due("sent by 1 behind the receiving, so no cause", x.cause(1, 0, 1, 1), NONE);
        ZigzagLines none = Checks.laid("n2;c0;");
        CHECKS.due("without a message", none.way(0, 0, 0, 2), NONE);
        CHECKS.due("without a message", none.cause(0, 0, 0, 2), NONE);
    }

    private static void wayOverMessagesThatAre() {
        ZigzagLines x = Checks.laid("n3;c0;s01;s12;");
        CHECKS.due("under way", x.way(0, 0, 1, 1), NONE);
        CHECKS.due("under way", x.cause(0, 0, 1, 1), NONE);
        x.receive(0);
        CHECKS.due("received", x.way(0, 1, 1, 1), 1);
        CHECKS.due("the next one is under way", x.way(0, 1, 2, 1), NONE);
        x.receive(1);
        CHECKS.due("both are received", x.way(0, 1, 2, 1), 2);
        x.fail(4);
        CHECKS.due("one is under way again", x.way(0, 1, 2, 1), NONE);
        x.receive(1);
        CHECKS.due("received again", x.way(0, 1, 2, 1), 2);
        x.fail(1);
        CHECKS.due("gone", x.way(0, 0, 1, 1), NONE);
        CHECKS.due("gone", x.cause(0, 0, 1, 1), NONE);
    }

    /** "IDLE is a state from which a WAY leads to itself." */
    private static void idleStates() {
        ZigzagLines x = Checks.laid("n2;s01;r00;c1;s10;r01;c0;s01;r02;c1;s10;r03;");
        CHECKS.dueRow("0's", new int[] {x.saved(0, 0, 3), x.saved(0, 1, 3)}, 0, 1);
        CHECKS.dueRow("1's", new int[] {x.saved(1, 0, 3), x.saved(1, 1, 3), x.saved(1, 2, 3)},
                0, 1, 1);
        CHECKS.due("way to itself", x.way(0, 1, 0, 1), 2);
        CHECKS.dueRow("counts", new int[] {x.process(0, 4), x.process(1, 4), x.count(8)}, 1, 2, 3);
        // Now is no SAVED state: nothing leads on from it.
        CHECKS.due("now", x.way(1, 3, 1, 3), NONE);
        ZigzagLines chain = FailingEdgesTest.longestChain();
        for (int p = 0; p < 5; p++) {
            CHECKS.due("all but the first", chain.process(p, 4), 11);
            CHECKS.due("the first", chain.saved(p, 0, 3), 0);
            CHECKS.due("the last", chain.saved(p, 11, 3), 1);
        }
    }

    private static void countsAtTheEdges() {
        ZigzagLines x = FailingEdgesTest.longestChain();
        CHECKS.due("what -1", x.count(-1), BAD);
        CHECKS.due("what 13", x.count(13), BAD);
        CHECKS.due("letters", x.count(12), 3);
        for (int length = 4; length <= 200; length++) {
            x.write(' ');
            CHECKS.due("letters", x.count(12), length);
        }
        x.write(' ');
        CHECKS.due("letters of a full one", x.count(12), 200);
        for (int p = 0; p < 5; p++) {
            x.pick(p, 0);
            CHECKS.due("picked", x.count(11), p + 1);
        }
        x.fail(31);
        CHECKS.due("picked still", x.count(11), 5);
        CHECKS.dueRow("all are gone", Checks.counts(x), 5, 0, 60, 0, 0, 60, 5, 0, 0, 5, 0, 5, 200);
        CHECKS.due("all but the letters", x.wipe(), 200);
        CHECKS.due("no letters", x.count(12), 0);
    }
}
