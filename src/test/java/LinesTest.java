/** Promises 20 to 25: lines, what is picked, and counts. */
public final class LinesTest {
    private static final Checks CHECKS = new Checks("LinesTest");
    private static final int[] FAR = {-1, Integer.MIN_VALUE, Integer.MAX_VALUE};

    /** Both send, receive and save in turn, so that their states fit. */
    private static final String IN_TURN = "n2;s01;s10;r00;c1;r01;c0;s01;s10;r02;c1;r03;c0;";

    public static void main(String[] args) {
        lines();
        domino();
        rounds();
        backCounts();
        picks();
        throughPicks();
        throughBehindFail();
        counts();
        CHECKS.end();
    }

    private static void lines() {
        ZigzagLines x = Checks.laid("n3;c1;c0;s01;r00;c1;s12;r01;");
        CHECKS.dueRow("none fails", Checks.line(x, 0), 2, 3, 1);
        CHECKS.dueRow("0 fails", Checks.line(x, 1), 1, 1, 0);
        CHECKS.dueRow("1 fails", Checks.line(x, 2), 2, 2, 0);
        CHECKS.dueRow("2 fails", Checks.line(x, 4), 2, 3, 0);
        CHECKS.dueRow("all fail", Checks.line(x, 7), 1, 1, 0);
        CHECKS.due("BAD set", x.line(8, 0), ZigzagLines.BAD);
        CHECKS.due("BAD p", x.line(1, 3), ZigzagLines.BAD);
        for (int far : FAR) {
            CHECKS.due("set " + far, x.line(far, 0), ZigzagLines.BAD);
            CHECKS.due("p " + far, x.line(0, far), ZigzagLines.BAD);
        }
    }

    private static void domino() {
        ZigzagLines x = Checks.laid(IN_TURN);
        CHECKS.dueRow("all at their last states", Checks.line(x, 3), 2, 2);
        x.send(0, 1);
        x.send(1, 0);
        x.receive(4);
        x.save(1);
        x.receive(5);
        CHECKS.dueRow("0 fails", Checks.line(x, 1), 2, 2);
        CHECKS.dueRow("back of 0", Checks.back(x, 1), 1, 1, 2, 0, 0);
        ZigzagLines y = Checks.laid("n2;s01;r00;c1;s10;r01;c0;s01;r02;c1;s10;r03;c0;s01;r04;");
        CHECKS.dueRow("0 fails", Checks.line(y, 1), 0, 0);
        CHECKS.dueRow("a round for each message", Checks.back(y, 1), 5, 4, 5, 0, 1);
        CHECKS.due("IDLE ones", y.count(8), 4);
        CHECKS.due("both begin anew", y.fail(1), 2);
        CHECKS.dueRow("counts then", Checks.counts(y), 2, 0, 5, 0, 0, 5, 2, 0, 0, 2, 0, 0, 55);
        ZigzagLines z = Checks.laid("n2;s01;r00;s10;c1;r01;s01;c0;r02;s10;c1;r03;s01;c0;r04;");
        CHECKS.dueRow("saved ahead of receiving: 1 fails", Checks.line(z, 2), 3, 2);
        CHECKS.dueRow("back of 1", Checks.back(z, 2), 0, 0, 0, 1, 0);
    }

    private static void rounds() {
        // In one round 1 and 2 go back by what 0 sent, in the next 3 by what 2 sent.
        ZigzagLines x = Checks.laid("n4;c0;s01;s02;r00;r01;s23;r02;s13;r03;");
        CHECKS.dueRow("0 fails", Checks.line(x, 1), 1, 0, 0, 0);
        CHECKS.due("two rounds", x.back(1, 0), 2);
        CHECKS.due("all gone", x.back(1, 2), 4);
        // A process may go back twice, by a round each.
        ZigzagLines y = Checks.laid("n3;s21;r00;c1;c0;s01;s02;r01;r02;c2;");
        CHECKS.dueRow("0 fails", Checks.line(y, 1), 1, 0, 0);
        CHECKS.due("its rounds", y.back(1, 0), 2);
        ZigzagLines z = Checks.laid("n2;c0;s01;r00;c1;s01;r01;c1;");
        CHECKS.dueRow("to the lowest stretch", Checks.line(z, 1), 1, 0);
        CHECKS.due("at once", z.back(1, 0), 1);
        CHECKS.due("none fails, none goes", y.back(0, 0), 0);
    }

    private static void backCounts() {
        ZigzagLines x = Checks.laid("n3;c1;c1;s21;r00;c0;s01;r01;s10;c1;c1;s20;");
        CHECKS.dueRow("0 fails", Checks.line(x, 1), 1, 2, 1);
        // 1 goes to state 2 of 5: states 3 and 4 lie behind. 1 and 2 are gone, 0 is under way.
        CHECKS.dueRow("back of 0", Checks.back(x, 1), 1, 2, 2, 1, 0);
        CHECKS.dueRow("back of 2", Checks.back(x, 4), 1, 2, 3, 1, 0);
        CHECKS.dueRow("back of none", Checks.back(x, 0), 0, 0, 0, 0, 0);
        CHECKS.due("fail 0", x.fail(1), 2);
        CHECKS.due("gone as told", x.count(5), 2);
        CHECKS.dueRow("under way as told", Checks.underway(x), 3, 0);
        CHECKS.dueRow("what is gone is not gone again", Checks.back(x, 1), 0, 0, 0, 0, 0);
        ZigzagLines y = Checks.laid("n2;c0;s10;r00;");
        CHECKS.due("K of 1 was 1", y.back(2, 4), 0);
        y.save(1);
        y.send(1, 0);
        CHECKS.due("1 is at its state 1", y.back(2, 4), 0);
        ZigzagLines z = Checks.laid("n2;s10;r00;c0;");
        CHECKS.due("0 is at its state 0, K was 2", z.back(2, 4), 1);
        CHECKS.due("BAD what", x.back(1, 5), ZigzagLines.BAD);
        CHECKS.due("BAD set", x.back(8, 0), ZigzagLines.BAD);
        for (int far : FAR) {
            CHECKS.due("set " + far, x.back(far, 0), ZigzagLines.BAD);
            CHECKS.due("what " + far, x.back(0, far), ZigzagLines.BAD);
        }
    }

    private static void picks() {
        ZigzagLines x = Checks.laid("n3;c0;");
        CHECKS.due("unpick of none", x.unpick(), 0);
        CHECKS.due("pick", x.pick(0, 1), 1);
        CHECKS.due("it is so", x.pick(0, 1), ZigzagLines.NO);
        CHECKS.due("in place of another", x.pick(0, 2), 1);
        CHECKS.due("K of 1", x.pick(1, 1), 2);
        CHECKS.due("above K", x.pick(1, 2), ZigzagLines.BAD);
        CHECKS.due("BAD p", x.pick(3, 0), ZigzagLines.BAD);
        for (int far : FAR) {
            CHECKS.due("p " + far, x.pick(far, 0), ZigzagLines.BAD);
            CHECKS.due("i " + far, x.pick(0, far), ZigzagLines.BAD);
        }
        CHECKS.due("picked", x.count(11), 2);
        CHECKS.due("unpick", x.unpick(), 2);
        CHECKS.due("none is", x.count(11), 0);
        CHECKS.due("it is not so any more", x.pick(0, 2), 1);
    }

    private static void throughPicks() {
        ZigzagLines x = Checks.laid("n3;s01;c0;r00;c1;s12;r01;c2;");
        CHECKS.dueRow("least through none", Checks.through(x, 0), 0, 0, 0);
        CHECKS.dueRow("greatest through none", Checks.through(x, 1), 2, 2, 2);
        x.pick(1, 1);
        CHECKS.dueRow("least", Checks.through(x, 0), 1, 1, 0);
        CHECKS.dueRow("greatest", Checks.through(x, 1), 2, 1, 0);
        x.unpick();
        x.pick(2, 1);
        CHECKS.dueRow("least, by two messages", Checks.through(x, 0), 1, 2, 1);
        CHECKS.dueRow("greatest", Checks.through(x, 1), 2, 2, 1);
        x.pick(0, 0);
        CHECKS.dueRow("no line: least", Checks.through(x, 0), -4, -4, -4);
        CHECKS.dueRow("no line: greatest", Checks.through(x, 1), -4, -4, -4);
        CHECKS.due("BAD which", x.through(2, 0), ZigzagLines.BAD);
        CHECKS.due("BAD p", x.through(0, 3), ZigzagLines.BAD);
        for (int far : FAR) {
            CHECKS.due("which " + far, x.through(far, 0), ZigzagLines.BAD);
            CHECKS.due("p " + far, x.through(0, far), ZigzagLines.BAD);
        }
    }

    private static void throughBehindFail() {
        ZigzagLines x = Checks.laid("n2;s01;r00;c1;c1;");
        x.pick(1, 3);
        CHECKS.dueRow("through now", Checks.through(x, 0), 1, 3);
        CHECKS.due("0 fails, 1 goes to 0", x.fail(1), 2);
        CHECKS.dueRow("above K: NO", Checks.through(x, 0), -2, -2);
        CHECKS.dueRow("above K: NO", Checks.through(x, 1), -2, -2);
        CHECKS.due("BAD ahead of NO", x.through(2, 0), ZigzagLines.BAD);
        CHECKS.due("it is PICKED still", x.count(11), 1);
        CHECKS.due("BAD ahead of NO, as it's above K", x.pick(1, 3), ZigzagLines.BAD);
        x.save(1);
        CHECKS.due("above K by one still", x.through(0, 1), ZigzagLines.NO);
        x.save(1);
        CHECKS.dueRow("it goes by its number alone", Checks.through(x, 0), 0, 3);
        CHECKS.due("it is so again", x.pick(1, 3), ZigzagLines.NO);
    }

    private static void counts() {
        ZigzagLines x = Checks.laid("n4;m3;c1;s10;s01;s32;r02;r01;");
        x.pick(3, 0);
        CHECKS.dueRow("counts", Checks.counts(x), 4, 3, 3, 1, 2, 0, 6, 1, 0, 4, 0, 1, 29);
        x.fail(8);
        x.gather();
        CHECKS.dueRow("counts behind", Checks.counts(x), 4, 3, 3, 1, 1, 1, 6, 1, 0, 4, 2, 1, 29);
        CHECKS.due("BAD", x.count(13), ZigzagLines.BAD);
        for (int far : FAR) {
            CHECKS.due("count " + far, x.count(far), ZigzagLines.BAD);
        }
    }
}
