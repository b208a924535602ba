/** Promises 18 and 19: ways by messages, and those that are causes. */
public final class WaysTest {
    private static final Checks CHECKS = new Checks("WaysTest");

    public static void main(String[] args) {
        zigzag();
        causes();
        fewest();
        idle();
        onlyReceived();
        edges();
        CHECKS.end();
    }

    /** 1 sends to 2 ahead of receiving from 0, both in its stretch 0. */
    private static final String ZIGZAG = "n3;s12;s01;r01;r00;c2;c1;";

    private static void zigzag() {
        ZigzagLines x = Checks.laid(ZIGZAG);
        CHECKS.due("backward within a stretch", x.way(0, 0, 2, 1), 2);
        CHECKS.due("that is no cause", x.cause(0, 0, 2, 1), ZigzagLines.NONE);
        CHECKS.due("one message", x.way(0, 0, 1, 1), 1);
        CHECKS.due("one message is a cause", x.cause(0, 0, 1, 1), 1);
        CHECKS.due("from 1's state 1 nothing is sent", x.way(1, 1, 2, 1), ZigzagLines.NONE);
        ZigzagLines y = Checks.laid("n3;s12;c1;s01;r01;r00;c2;c1;");
        CHECKS.due("not to an earlier stretch", y.way(0, 0, 2, 1), ZigzagLines.NONE);
    }

    private static void causes() {
        ZigzagLines x = Checks.laid("n3;s01;r00;s12;r01;c2;");
        CHECKS.due("sent behind the receiving", x.cause(0, 0, 2, 1), 2);
        CHECKS.due("is a way, too", x.way(0, 0, 2, 1), 2);
        ZigzagLines y = Checks.laid("n3;s01;r00;c1;c1;s12;r01;c2;");
        CHECKS.due("in a later stretch", y.cause(0, 0, 2, 1), 2);
        CHECKS.due("from 1's state 2", y.cause(1, 2, 2, 1), 1);
        CHECKS.due("from 1's state 3", y.cause(1, 3, 2, 1), ZigzagLines.NONE);
        ZigzagLines early = Checks.laid("n2;s01;r00;c0;c0;");
        CHECKS.due("sent ahead of state 1", early.cause(0, 1, 1, 1), ZigzagLines.NONE);
        CHECKS.due("sent behind state 0", early.cause(0, 0, 1, 1), 1);
        // Behind fail() the receiving is anew, so what was sent ahead of it is no effect of it.
        ZigzagLines z = Checks.laid("n3;s01;c1;r00;");
        z.fail(2);
        z.send(1, 2);
        z.receive(1);
        CHECKS.due("not received yet", z.way(0, 0, 2, 1), ZigzagLines.NONE);
        z.receive(0);
        CHECKS.due("received anew, behind the send", z.cause(0, 0, 2, 1), ZigzagLines.NONE);
        CHECKS.due("but zigzag", z.way(0, 0, 2, 1), 2);
    }

    private static void fewest() {
        ZigzagLines x = Checks.laid("n4;s01;r00;s12;r01;s23;r02;c3;s03;r03;c3;");
        CHECKS.due("to 3's state 1", x.way(0, 0, 3, 1), 3);
        CHECKS.due("to 3's state 1 as a cause", x.cause(0, 0, 3, 1), 3);
        CHECKS.due("to 3's state 2 it is shorter", x.way(0, 0, 3, 2), 1);
        CHECKS.due("as a cause, too", x.cause(0, 0, 3, 2), 1);
        CHECKS.due("to 3's state K", x.way(1, 0, 3, 3), 2);
        CHECKS.due("to 2's state 1, now", x.way(0, 0, 2, 1), 2);
        ZigzagLines y = Checks.laid("n3;s12;s01;r01;s12;r00;c2;r02;c2;");
        CHECKS.due("a way of two to 2's state 1", y.way(0, 0, 2, 1), 2);
        CHECKS.due("no cause there", y.cause(0, 0, 2, 1), ZigzagLines.NONE);
        CHECKS.due("a cause to 2's state 2", y.cause(0, 0, 2, 2), 2);
    }

    private static void idle() {
        // 0 sends behind its state 1; 1 had sent in that stretch what 0 received ahead of state 1.
        ZigzagLines x = Checks.laid("n2;s10;r00;c0;s01;r01;");
        CHECKS.due("a way to itself", x.way(0, 1, 0, 1), 2);
        CHECKS.due("that is no cause", x.cause(0, 1, 0, 1), ZigzagLines.NONE);
        CHECKS.due("so it is idle", x.saved(0, 1, 3), 1);
        CHECKS.due("one of 0", x.process(0, 4), 1);
        CHECKS.due("one in all", x.count(8), 1);
        CHECKS.due("no line through it", x.pick(0, 1), 1);
        CHECKS.due("none", x.through(1, 1), ZigzagLines.NONE);
        ZigzagLines y = Checks.laid("n2;m1;s10;r00;c0;s01;r01;");
        CHECKS.due("forced ahead of it, none is idle", y.count(8), 0);
        CHECKS.due("forced", y.count(7), 1);
    }

    private static void onlyReceived() {
        ZigzagLines x = Checks.laid("n2;s01;c1;");
        CHECKS.due("under way is no way", x.way(0, 0, 1, 2), ZigzagLines.NONE);
        x.receive(0);
        CHECKS.due("received ahead of now", x.way(0, 0, 1, 2), 1);
        CHECKS.due("not ahead of state 1", x.way(0, 0, 1, 1), ZigzagLines.NONE);
        x.fail(1);
        CHECKS.due("gone is no way", x.way(0, 0, 1, 2), ZigzagLines.NONE);
    }

    private static void edges() {
        ZigzagLines x = Checks.laid(ZIGZAG);
        CHECKS.due("to a state 0", x.way(0, 0, 2, 0), ZigzagLines.NONE);
        CHECKS.due("from a state K", x.way(0, 1, 2, 2), ZigzagLines.NONE);
        CHECKS.due("cause from a state K", x.cause(0, 1, 2, 2), ZigzagLines.NONE);
        CHECKS.due("to oneself without a message", x.way(0, 0, 0, 1), ZigzagLines.NONE);
        CHECKS.due("cause to oneself", x.cause(0, 0, 0, 1), ZigzagLines.NONE);
        int[][] bad = {{3, 0, 0, 0}, {0, 2, 0, 0}, {0, 0, 3, 0}, {0, 0, 0, 2}, {-1, 0, 0, 0},
            {0, -1, 0, 0}, {0, 0, -1, 0}, {0, 0, 0, -1},
            {Integer.MAX_VALUE, Integer.MAX_VALUE, Integer.MIN_VALUE, Integer.MIN_VALUE}};
        for (int[] b : bad) {
            CHECKS.due("BAD way", x.way(b[0], b[1], b[2], b[3]), ZigzagLines.BAD);
            CHECKS.due("BAD cause", x.cause(b[0], b[1], b[2], b[3]), ZigzagLines.BAD);
        }
    }
}
