/** Promises 13 to 17: what is looked at. */
public final class LookingTest {
    private static final Checks CHECKS = new Checks("LookingTest");
    private static final int[] FAR = {-1, Integer.MIN_VALUE, Integer.MAX_VALUE};

    public static void main(String[] args) {
        processes();
        known();
        savedStates();
        messages();
        underWay();
        CHECKS.end();
    }

    private static void processes() {
        ZigzagLines x = new ZigzagLines();
        CHECKS.dueRow("process 2", Checks.process(x, 2), 3, 2, 0, 0, 1, 1, 0);
        x.send(2, 0);
        x.send(2, 1);
        CHECKS.due("sent in the stretch that goes on", x.process(2, 6), 2);
        x.save(2);
        CHECKS.due("in the next one", x.process(2, 6), 0);
        CHECKS.due("BAD process", x.process(3, 0), ZigzagLines.BAD);
        CHECKS.due("BAD what", x.process(0, 7), ZigzagLines.BAD);
        for (int far : FAR) {
            CHECKS.due("process " + far, x.process(far, 0), ZigzagLines.BAD);
            CHECKS.due("what " + far, x.process(0, far), ZigzagLines.BAD);
        }
    }

    private static void known() {
        ZigzagLines x = Checks.laid("n3;c0;s01;c1;r00;c1;s12;r01;");
        CHECKS.dueRow("1 at 0", Checks.knows(x, 1, 0), -4, 0, -4);
        CHECKS.dueRow("1 at 1", Checks.knows(x, 1, 1), -4, 1, -4);
        CHECKS.dueRow("1 at 2", Checks.knows(x, 1, 2), 1, 2, -4);
        CHECKS.dueRow("1 now", Checks.knows(x, 1, 3), 1, 2, -4);
        CHECKS.dueRow("2 at 0", Checks.knows(x, 2, 0), -4, -4, 0);
        CHECKS.dueRow("2 now", Checks.knows(x, 2, 1), 1, 2, 0);
        CHECKS.due("above K", x.knows(2, 2, 0), ZigzagLines.BAD);
        CHECKS.due("BAD p", x.knows(3, 0, 0), ZigzagLines.BAD);
        CHECKS.due("BAD q", x.knows(0, 0, 3), ZigzagLines.BAD);
        for (int far : FAR) {
            CHECKS.due("p " + far, x.knows(far, 0, 0), ZigzagLines.BAD);
            CHECKS.due("i " + far, x.knows(0, far, 0), ZigzagLines.BAD);
            CHECKS.due("q " + far, x.knows(0, 0, far), ZigzagLines.BAD);
        }
    }

    private static void savedStates() {
        ZigzagLines x = new ZigzagLines();
        CHECKS.dueRow("2's state 1 is idle", Checks.saved(x, 2, 1), 1, 0, 0, 1, 0);
        CHECKS.dueRow("2's state 2 is needed", Checks.saved(x, 2, 2), 2, 0, 0, 0, 1);
        CHECKS.due("K is not saved", x.saved(2, 3, 0), ZigzagLines.BAD);
        CHECKS.due("BAD what", x.saved(2, 2, 5), ZigzagLines.BAD);
        CHECKS.due("BAD p", x.saved(3, 0, 0), ZigzagLines.BAD);
        for (int far : FAR) {
            CHECKS.due("p " + far, x.saved(far, 0, 0), ZigzagLines.BAD);
            CHECKS.due("i " + far, x.saved(0, far, 0), ZigzagLines.BAD);
            CHECKS.due("what " + far, x.saved(0, 0, far), ZigzagLines.BAD);
        }
        // State 1 of 1 is on the line only if 0 fails, and state 2 only if 1 does.
        ZigzagLines y = Checks.laid("n2;c1;c0;s01;r00;c1;");
        CHECKS.dueRow("1 at 1", Checks.saved(y, 1, 1), 1, 0, 0, 0, 1);
        CHECKS.dueRow("1 at 2", Checks.saved(y, 1, 2), 2, 0, 0, 0, 1);
        CHECKS.dueRow("1 at 0", Checks.saved(y, 1, 0), 0, 0, 0, 0, 0);
        CHECKS.due("needed of 1", y.process(1, 5), 2);
        CHECKS.due("needed of all", y.count(9), 3);
    }

    private static void messages() {
        ZigzagLines x = Checks.laid("n3;c2;s20;c0;r00;c1;s10;");
        CHECKS.dueRow("message 0", Checks.message(x, 0), 2, 0, 1, 1, 1, 1);
        CHECKS.dueRow("message 1", Checks.message(x, 1), 1, 0, 1, -4, 1, 0);
        x.fail(2);
        CHECKS.dueRow("message 1, gone", Checks.message(x, 1), 1, 0, 1, -4, 1, 2);
        x.fail(1);
        CHECKS.dueRow("message 0, under way again", Checks.message(x, 0), 2, 0, 1, -4, 1, 0);
        CHECKS.due("BAD m", x.message(2, 0), ZigzagLines.BAD);
        CHECKS.due("BAD what", x.message(0, 6), ZigzagLines.BAD);
        for (int far : FAR) {
            CHECKS.due("m " + far, x.message(far, 0), ZigzagLines.BAD);
            CHECKS.due("what " + far, x.message(0, far), ZigzagLines.BAD);
        }
        CHECKS.due("no message at all", Checks.laid("n2;").message(0, 0), ZigzagLines.BAD);
    }

    private static void underWay() {
        ZigzagLines x = Checks.laid("n3;s01;s12;s20;s01;r01;");
        CHECKS.dueRow("in their order", Checks.underway(x), 0, 2, 3);
        CHECKS.due("not so many", x.underway(3), ZigzagLines.NONE);
        CHECKS.due("far from so many", x.underway(Integer.MAX_VALUE), ZigzagLines.NONE);
        CHECKS.due("below -1", x.underway(-2), ZigzagLines.BAD);
        CHECKS.due("far below", x.underway(Integer.MIN_VALUE), ZigzagLines.BAD);
        x.receive(0);
        x.receive(3);
        x.fail(6);
        CHECKS.dueRow("again behind all that are; 1 and 2 are gone", Checks.underway(x), 0, 3);
        ZigzagLines y = Checks.laid("n3;s01;s01;s21;s21;r03;r00;s20;");
        y.fail(2);
        CHECKS.dueRow("the lower first", Checks.underway(y), 1, 2, 4, 0, 3);
        CHECKS.due("how many", y.underway(-1), 5);
    }
}
