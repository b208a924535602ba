/** Promises 6 to 12: what processes do. */
public final class DoingTest {
    private static final Checks CHECKS = new Checks("DoingTest");
    private static final int LOW = Integer.MIN_VALUE;
    private static final int HIGH = Integer.MAX_VALUE;

    public static void main(String[] args) {
        modes();
        saves();
        sends();
        receives();
        receivesInModeOne();
        receivesInModeTwo();
        receivesInModeThree();
        receiveFull();
        fails();
        failsWithDomino();
        failsAndDoesAnew();
        gathers();
        drives();
        drivesAtTheEdges();
        CHECKS.end();
    }

    private static void modes() {
        ZigzagLines x = new ZigzagLines();
        CHECKS.due("mode(0) at first", x.mode(0), ZigzagLines.NO);
        CHECKS.due("mode(3)", x.mode(3), 0);
        CHECKS.due("mode(3) again", x.mode(3), ZigzagLines.NO);
        CHECKS.due("mode(1)", x.mode(1), 3);
        CHECKS.due("mode(2)", x.mode(2), 1);
        for (int m : new int[] {-1, 4, LOW, HIGH}) {
            CHECKS.due("mode " + m, x.mode(m), ZigzagLines.BAD);
        }
        CHECKS.due("mode stays", x.count(1), 2);
    }

    private static void saves() {
        ZigzagLines x = Checks.laid("n2;");
        for (int p : new int[] {-1, 2, LOW, HIGH}) {
            CHECKS.due("save " + p, x.save(p), ZigzagLines.BAD);
        }
        for (int k = 2; k <= 12; k++) {
            CHECKS.due("save up to " + k, x.save(1), k);
            CHECKS.due("its mark", x.process(1, 1), k - 1);
            CHECKS.due("the mark kept", x.saved(1, k - 1, 0), k - 1);
            CHECKS.due("it knows of itself", x.knows(1, k, 1), k - 1);
        }
        CHECKS.due("save the 13th", x.save(1), ZigzagLines.FULL);
        CHECKS.dueRow("nothing changes", Checks.process(x, 1), 12, 11, 0, 0, 0, 1, 0);
        CHECKS.due("the other one", x.save(0), 2);
    }

    private static void sends() {
        ZigzagLines x = Checks.laid("n3;c1;");
        int[][] bad = {{0, 0}, {-1, 0}, {0, -1}, {3, 0}, {0, 3}, {LOW, HIGH}, {HIGH, LOW}};
        for (int[] ab : bad) {
            CHECKS.due("send " + ab[0] + " " + ab[1], x.send(ab[0], ab[1]), ZigzagLines.BAD);
        }
        for (int m = 0; m < 60; m++) {
            CHECKS.due("send up to 60", x.send(1, m % 2 * 2), m);
        }
        CHECKS.dueRow("message 1", Checks.message(x, 1), 1, 2, 1, -4, 1, 0);
        CHECKS.due("the 61st", x.send(1, 0), ZigzagLines.FULL);
        CHECKS.due("BAD ahead of FULL", x.send(1, 1), ZigzagLines.BAD);
        x.fail(2);
        CHECKS.due("all are gone", x.count(5), 60);
        CHECKS.due("FULL since LAID", x.send(1, 0), ZigzagLines.FULL);
    }

    private static void receives() {
        ZigzagLines x = Checks.laid("n3;s01;s01;c0;c1;");
        for (int m : new int[] {-1, 2, 60, LOW, HIGH}) {
            CHECKS.due("receive " + m, x.receive(m), ZigzagLines.BAD);
        }
        CHECKS.due("receive the later one", x.receive(1), 0);
        CHECKS.due("receive it again", x.receive(1), ZigzagLines.NO);
        CHECKS.dueRow("under way still", Checks.underway(x), 0);
        CHECKS.dueRow("message 1", Checks.message(x, 1), 0, 1, 0, 1, 0, 1);
        CHECKS.dueRow("1 knows of 0 as it was then", Checks.knows(x, 1, 2), 0, 1, -4);
        CHECKS.dueRow("as kept with state 1", Checks.knows(x, 1, 1), -4, 1, -4);
        x.send(0, 1);
        x.receive(2);
        CHECKS.dueRow("1 knows of 0 the later one", Checks.knows(x, 1, 2), 1, 1, -4);
        CHECKS.due("receive the earlier one", x.receive(0), 0);
        CHECKS.dueRow("the later one stays", Checks.knows(x, 1, 2), 1, 1, -4);
        x.send(1, 2);
        x.receive(3);
        CHECKS.dueRow("2 knows of both", Checks.knows(x, 2, 1), 1, 1, 0);
        x.send(0, 1);
        x.fail(1);
        CHECKS.due("receive one that is gone", x.receive(4), ZigzagLines.NO);
    }

    private static void receivesInModeOne() {
        ZigzagLines x = Checks.laid("n2;m1;c0;c0;c0;s01;c1;s01;");
        CHECKS.due("3 is more than 1", x.receive(0), 1);
        CHECKS.dueRow("its MARK is that of the MESSAGE", Checks.process(x, 1),
                3, 3, 1, 0, 0, 1, 0);
        CHECKS.dueRow("kept so", Checks.saved(x, 1, 2), 3, 1, 0, 0, 1);
        CHECKS.due("received in the new stretch", x.message(0, 3), 2);
        CHECKS.dueRow("known ahead of it", Checks.knows(x, 1, 2), -4, 2);
        CHECKS.dueRow("known behind it", Checks.knows(x, 1, 3), 3, 2);
        CHECKS.due("3 is not more than 3", x.receive(1), 0);
        CHECKS.due("then it counts on", x.save(1), 4);
        CHECKS.due("from there", x.process(1, 1), 4);
        x.mode(0);
        x.save(0);
        x.save(0);
        x.send(0, 1);
        CHECKS.due("MODE 0 forces none", x.receive(2), 0);
        CHECKS.due("and leaves the MARK", x.process(1, 1), 4);
    }

    private static void receivesInModeTwo() {
        ZigzagLines x = Checks.laid("n3;m2;s01;s01;s10;s01;c0;s01;");
        CHECKS.due("it has sent, and learns", x.receive(0), 1);
        CHECKS.due("its MARK is 1 more", x.process(1, 1), 1);
        CHECKS.due("it has not sent", x.receive(1), 0);
        CHECKS.due("a new send", x.send(1, 2), 5);
        CHECKS.due("it has sent, and learns nothing", x.receive(3), 0);
        CHECKS.due("it has sent, and learns a later one", x.receive(4), 1);
        CHECKS.dueRow("process 1", Checks.process(x, 1), 3, 2, 2, 0, 0, 1, 0);
        CHECKS.due("0 has not sent in stretch 1? it has", x.process(0, 6), 1);
        CHECKS.due("0 learns of 1", x.receive(2), 1);
        x.send(2, 1);
        x.send(2, 0);
        CHECKS.due("2 learns of 1", x.receive(5), 1);
        CHECKS.dueRow("2 knows", Checks.knows(x, 2, 2), 0, 1, 1);
    }

    private static void receivesInModeThree() {
        ZigzagLines x = Checks.laid("n2;m3;s01;s01;s01;");
        CHECKS.due("it has not sent", x.receive(0), 0);
        x.send(1, 0);
        CHECKS.due("it has sent, though it learns nothing", x.receive(1), 1);
        CHECKS.due("not in this stretch", x.receive(2), 0);
        CHECKS.dueRow("process 1", Checks.process(x, 1), 2, 1, 1, 0, 0, 2, 0);
    }

    private static void receiveFull() {
        for (int mode = 1; mode <= 3; mode++) {
            ZigzagLines x = Checks.laid("n2;c0;c0;c0;c0;c0;c0;c0;c0;c0;c0;c0;"
                    + "c1;c1;c1;c1;c1;c1;c1;c1;c1;c1;c1;s01;");
            ZigzagLines marked = Checks.laid("n3;c1;c1;c1;c1;c1;c1;c1;c1;c1;c1;c1;"
                    + "m1;c0;c0;c0;c0;c0;c0;c0;c0;c0;c0;c0;m0;");
            if (mode == 1) {
                // A mark above 11 at a process with room: forced by 11, then one more.
                marked.mode(1);
                marked.send(0, 2);
                marked.receive(0);
                marked.save(2);
                marked.send(2, 1);
                x = marked;
            } else {
                x.send(1, 0);
            }
            x.mode(mode);
            int m = mode == 1 ? 1 : 0;
            int[] ahead = Checks.process(x, 1);
            CHECKS.due("FULL in MODE " + mode, x.receive(m), ZigzagLines.FULL);
            CHECKS.dueRow("nothing changes", Checks.process(x, 1), ahead);
            CHECKS.due("it is under way still", x.message(m, 5), 0);
            x.mode(0);
            CHECKS.due("in MODE 0 it is received", x.receive(m), 0);
        }
    }

    private static void fails() {
        ZigzagLines x = Checks.laid("n3;s01;s01;s20;r00;c1;s10;s12;r02;r01;c0;s21;");
        for (int set : new int[] {0, -1, 8, LOW, HIGH}) {
            CHECKS.due("fail " + set, x.fail(set), ZigzagLines.BAD);
        }
        CHECKS.dueRow("under way ahead", Checks.underway(x), 3, 4, 5);
        CHECKS.due("1 fails", x.fail(2), 1);
        CHECKS.dueRow("sent there is gone, received there is under way", Checks.underway(x), 5, 1);
        CHECKS.dueRow("message 3", Checks.message(x, 3), 1, 0, 1, -4, 1, 2);
        CHECKS.dueRow("message 1", Checks.message(x, 1), 0, 1, 0, -4, 0, 0);
        CHECKS.dueRow("message 0 stays", Checks.message(x, 0), 0, 1, 0, 0, 0, 1);
        // Its state 0 is needed, too: if 2 fails, 0 goes back by message 2 and then 1 by message 0.
        CHECKS.dueRow("process 1", Checks.process(x, 1), 2, 1, 0, 0, 0, 2, 0);
        CHECKS.due("GONE", x.count(5), 2);
        CHECKS.due("again nothing is undone", x.back(2, 2) + x.back(2, 3), 0);
        CHECKS.due("but it goes back", x.fail(2), 1);
        CHECKS.due("0 and 2 fail, 1 goes with them", x.fail(5), 3);
        CHECKS.dueRow("all is gone", Checks.underway(x));
        CHECKS.due("so all six are", x.count(5), 6);
    }

    private static void failsWithDomino() {
        ZigzagLines x = Checks.laid("n2;s01;c0;r00;s10;c1;r01;s01;c0;r02;s10;c1;r03;");
        CHECKS.dueRow("each saves between sending and receiving", Checks.line(x, 1), 2, 3);
        ZigzagLines y = Checks.laid("n2;s01;r00;c1;s10;r01;c0;s01;r02;c1;s10;r03;");
        CHECKS.dueRow("1 fails", Checks.line(y, 2), 0, 0);
        CHECKS.due("both go", y.fail(2), 2);
        CHECKS.dueRow("process 0", Checks.process(y, 0), 1, 0, 0, 0, 0, 1, 0);
        CHECKS.dueRow("0 knows as at first", Checks.knows(y, 0, 1), 0, -4);
        CHECKS.dueRow("message 2 was sent behind 0's state", Checks.message(y, 2),
                0, 1, 1, -4, 1, 2);
    }

    private static void failsAndDoesAnew() {
        ZigzagLines x = Checks.laid("n2;m3;c1;s10;s01;");
        CHECKS.due("1 has sent", x.process(1, 6), 1);
        x.fail(2);
        CHECKS.due("what is gone is not sent", x.process(1, 6), 0);
        CHECKS.due("so it is not forced", x.receive(1), 0);
        x.send(1, 0);
        CHECKS.due("sent anew", x.process(1, 6), 1);
        x.save(1);
        CHECKS.due("saved anew", x.process(1, 1), 2);
        ZigzagLines y = Checks.laid("n2;m3;s10;s01;r01;");
        CHECKS.due("forced state", y.saved(1, 1, 1), 1);
        // 0 sent message 1 in stretch 0, so 1 loses its forced state's receiving only.
        CHECKS.due("0 fails", y.fail(1), 2);
        CHECKS.due("1 is at its forced state", y.process(1, 0), 2);
        CHECKS.due("the mode stays", y.count(1), 3);
        CHECKS.dueRow("1 knows as kept", Checks.knows(y, 1, 2), -4, 1);
    }

    private static void gathers() {
        ZigzagLines x = new ZigzagLines();
        CHECKS.due("gather", x.gather(), 6);
        CHECKS.due("again", x.gather(), 0);
        CHECKS.dueRow("saved 0 1", Checks.saved(x, 0, 1), 1, 0, 1, 0, 0);
        CHECKS.dueRow("saved 0 2", Checks.saved(x, 0, 2), 2, 0, 0, 0, 1);
        CHECKS.due("of one", x.process(0, 3), 2);
        x.save(0);
        CHECKS.due("one more", x.gather(), 1);
        CHECKS.due("all", x.count(10), 7);
        CHECKS.due("they count as SAVED", x.count(6), 10);
        CHECKS.due("and can be picked", x.pick(0, 0), 1);
        x.fail(7);
        CHECKS.due("they stay FREED", x.count(10), 7);
        ZigzagLines none = Checks.laid("n4;s01;r00;");
        CHECKS.due("none is ahead of the first states", none.gather(), 0);
    }

    private static void drives() {
        ZigzagLines x = Checks.laid("n2;");
        // z = 0, k = 0: x is 1, DRAW is 1: process 0 sends to 1.
        CHECKS.due("drive(0, 1)", x.drive(0, 1), 1);
        CHECKS.dueRow("message 0", Checks.message(x, 0), 0, 1, 0, -4, 0, 0);
        // z = 1, k = 0: x is 7920, DRAW is 62726400 modulo 65521 = 22803: by 4 its rest is 3, a
        // message is received.
        CHECKS.due("drive(1, 1)", x.drive(1, 1), 1);
        CHECKS.due("message 0 is received", x.message(0, 5), 1);
        CHECKS.due("none is under way now", x.drive(1, 1), 0);
        // 22803 by 32, cut, is 712: of three under way the one behind the first, of four the first.
        ZigzagLines some = Checks.laid("n2;s01;s10;s01;");
        some.drive(1, 1);
        CHECKS.dueRow("one is ahead of it", Checks.underway(some), 0, 2);
        some.send(0, 1);
        some.send(0, 1);
        some.drive(1, 1);
        CHECKS.dueRow("none is ahead of it", Checks.underway(some), 2, 3, 4);
        ZigzagLines y = Checks.laid("n5;");
        NaiveModel model = new NaiveModel(5);
        int[] seeds = {0, 9999, 4711, 1234, 77, 5000};
        for (int z : seeds) {
            CHECKS.due("drive " + z, y.drive(z, 60), model.drive(z, 60));
        }
        CHECKS.due("messages", y.count(2), model.messages.size());
        CHECKS.due("under way", y.count(3), model.underWay.size());
    }

    private static void drivesAtTheEdges() {
        ZigzagLines x = Checks.laid("n3;");
        int[][] bad = {{-1, 1}, {10000, 1}, {0, 0}, {0, 61}, {0, -1}, {LOW, HIGH}, {HIGH, LOW}};
        for (int[] zn : bad) {
            CHECKS.due("drive " + zn[0] + " " + zn[1], x.drive(zn[0], zn[1]), ZigzagLines.BAD);
        }
        CHECKS.dueRow("nothing changes", Checks.counts(x),
                3, 0, 0, 0, 0, 0, 3, 0, 0, 3, 0, 0, 3);
        int done = 0;
        for (int z = 0; z < 40; z++) {
            done += x.drive(z, 60);
        }
        CHECKS.due("all that can be done", done, 60 + x.count(4) + x.count(6) - 3);
        CHECKS.due("60 messages", x.count(2), 60);
        CHECKS.due("36 states", x.count(6), 36);
        CHECKS.due("all are received", x.count(4), 60);
        CHECKS.due("nothing more can be", x.drive(41, 60), 0);
    }
}
