/** Promises 1 to 5: a new object, and what is told in THE TEXT. */
public final class TellingTest {
    private static final Checks CHECKS = new Checks("TellingTest");
    private static final String FIRST =
            "n3;s01;c1;r00;s12;r01;c2;s20;c0;r02;s01;r03;c1;s21;c0;c2;";

    public static void main(String[] args) {
        newObject();
        writing();
        wiping();
        faults();
        faultsOfDeeds();
        faultChangesNothing();
        laying();
        layingRefused();
        layingEndsPicksAndFreed();
        CHECKS.end();
    }

    private static void newObject() {
        ZigzagLines x = new ZigzagLines();
        CHECKS.dueRow("counts of a new object", Checks.counts(x),
                3, 0, 5, 1, 4, 0, 9, 0, 1, 3, 0, 0, 0);
        CHECKS.due("its fault", x.fault(), ZigzagLines.NONE);
        ZigzagLines told = Checks.laid(FIRST);
        for (int p = 0; p < 3; p++) {
            CHECKS.dueRow("process as told", Checks.process(x, p), Checks.process(told, p));
            for (int i = 0; i <= 3; i++) {
                CHECKS.dueRow("known as told", Checks.knows(x, p, i), Checks.knows(told, p, i));
            }
        }
        for (int m = 0; m < 5; m++) {
            CHECKS.dueRow("message as told", Checks.message(x, m), Checks.message(told, m));
        }
        ZigzagLines other = new ZigzagLines();
        x.save(0);
        CHECKS.due("another object stays", other.process(0, 0), 3);
    }

    private static void writing() {
        ZigzagLines x = new ZigzagLines();
        for (int letter : new int[] {31, 127, 0, -1, 128, Integer.MIN_VALUE, Integer.MAX_VALUE}) {
            CHECKS.due("write " + letter, x.write(letter), ZigzagLines.BAD);
        }
        CHECKS.due("length behind BAD", x.count(12), 0);
        CHECKS.due("write 32", x.write(32), 1);
        CHECKS.due("write 126", x.write(126), 2);
        for (int length = 3; length <= 200; length++) {
            CHECKS.due("write up to " + length, x.write('c'), length);
        }
        CHECKS.due("write the 201st", x.write('c'), ZigzagLines.FULL);
        CHECKS.due("BAD ahead of FULL", x.write(31), ZigzagLines.BAD);
        CHECKS.due("length at FULL", x.count(12), 200);
    }

    private static void wiping() {
        ZigzagLines x = new ZigzagLines();
        CHECKS.due("wipe of none", x.wipe(), 0);
        Checks.write(x, "n3;x");
        CHECKS.due("wipe", x.wipe(), 4);
        CHECKS.due("wiped", x.count(12), 0);
        CHECKS.due("wiped has no fault", x.fault(), ZigzagLines.NONE);
        Checks.write(x, "n2;");
        CHECKS.due("written anew", x.fault(), ZigzagLines.NONE);
    }

    private static void fault(String text, int want) {
        ZigzagLines x = new ZigzagLines();
        Checks.write(x, text);
        CHECKS.due("fault of " + text, x.fault(), want);
        int processes = want == ZigzagLines.NONE && text.length() > 0 ? text.charAt(1) - '0'
                : ZigzagLines.NO;
        CHECKS.due("lay of " + text, x.lay(), processes);
        CHECKS.due("the text stays: " + text, x.count(12), text.length());
    }

    private static void faults() {
        fault("", ZigzagLines.NONE);
        fault("n2;", ZigzagLines.NONE);
        fault("n5;", ZigzagLines.NONE);
        fault("n1;", 0);
        fault("n6;", 0);
        fault("n0;", 0);
        fault("n9;", 0);
        fault("n", 0);
        fault("n3", 0);
        fault("n;", 0);
        fault("n03;", 0);
        fault("n3,", 0);
        fault(" n3;", 0);
        fault("n3; ", 3);
        fault("N3;", 0);
        fault("m0;", 0);
        fault("m1;n3;", 0);
        fault("c0;", 0);
        fault(";", 0);
        fault("n3;;", 3);
        fault("n3;n3;", 3);
        fault("n3;c0;n3;", 6);
        fault("n3;x0;", 3);
        fault("n3;c", 3);
        fault("n3;c0", 3);
        fault("n3;c;", 3);
        fault("n3;c00;", 3);
        fault("n3;c+;", 3);
        fault("n3;m;", 3);
        fault("n3;m01;", 3);
        fault("n3;s0;", 3);
        fault("n3;s012;", 3);
        fault("n3;s01", 3);
        fault("n3;s0x;", 3);
        fault("n3;s01;r0;", 7);
        fault("n3;s01;r000;", 7);
        fault("n3;s01;r00", 7);
        fault("n3;s01;r0:;", 7);
    }

    private static void faultsOfDeeds() {
        fault("n3;m0;m0;m1;m2;m3;m3;", ZigzagLines.NONE);
        fault("n3;m4;", 3);
        fault("n3;c2;", ZigzagLines.NONE);
        fault("n3;c3;", 3);
        fault("n4;c3;", ZigzagLines.NONE);
        fault("n3;s00;", 3);
        fault("n3;s03;", 3);
        fault("n3;s30;", 3);
        fault("n5;s43;s34;", ZigzagLines.NONE);
        fault("n3;r00;", 3);
        fault("n3;s01;r01;", 7);
        fault("n3;s01;r00;r00;", 11);
        fault("n3;s01;s01;r01;r00;", ZigzagLines.NONE);
        fault("n2;s01;s01;s01;s01;s01;s01;s01;s01;s01;s01;r09;", ZigzagLines.NONE);
        fault("n2;s01;s01;s01;s01;s01;s01;s01;s01;s01;s01;r1x;", 43);
        String eleven = "c1;c1;c1;c1;c1;c1;c1;c1;c1;c1;c1;";
        fault("n2;" + eleven, ZigzagLines.NONE);
        fault("n2;" + eleven + "c1;", 36);
        fault("n2;" + eleven + "c0;", ZigzagLines.NONE);
        fault("n2;" + eleven + "s10;s01;r01;", ZigzagLines.NONE);
        fault("n2;" + eleven + "m3;s10;s01;r01;", 36 + 3 + 8);
        fault("n2;" + eleven + "m3;s01;r00;", ZigzagLines.NONE);
        fault("n2;m1;c0;s01;r00;c1;c1;", ZigzagLines.NONE);
        StringBuilder many = new StringBuilder("n2;");
        for (int m = 0; m < 24; m++) {
            many.append("s01;").append(m < 10 ? "r0" : "r").append(m).append(';');
        }
        fault(many.toString(), ZigzagLines.NONE);
        fault(many + "r23;", 195);
        fault(many + "r25;", 195);
    }

    private static void faultChangesNothing() {
        ZigzagLines x = new ZigzagLines();
        x.pick(0, 1);
        x.gather();
        int[] ahead = Checks.counts(x);
        Checks.write(x, "n2;m3;s01;r00;");
        x.fault();
        ahead[12] = 14;
        CHECKS.dueRow("counts behind fault", Checks.counts(x), ahead);
        CHECKS.dueRow("process behind fault", Checks.process(x, 2), 3, 2, 0, 2, 1, 1, 0);
        CHECKS.due("fault again", x.fault(), ZigzagLines.NONE);
    }

    private static void laying() {
        ZigzagLines x = new ZigzagLines();
        Checks.write(x, "n4;m2;s01;s12;c3;r00;");
        x.mode(1);
        CHECKS.due("lay", x.lay(), 4);
        CHECKS.dueRow("counts behind lay", Checks.counts(x),
                4, 2, 2, 1, 1, 0, 6, 1, 0, 4, 0, 0, 21);
        x.mode(3);
        x.save(3);
        x.send(0, 1);
        CHECKS.due("lay again", x.lay(), 4);
        CHECKS.dueRow("all as told again", Checks.counts(x),
                4, 2, 2, 1, 1, 0, 6, 1, 0, 4, 0, 0, 21);
        CHECKS.dueRow("under way as told", Checks.underway(x), 1);
        x.wipe();
        Checks.write(x, "n2;");
        x.mode(3);
        CHECKS.due("lay of n2;", x.lay(), 2);
        CHECKS.dueRow("MODE is 0 ahead of any", Checks.counts(x),
                2, 0, 0, 0, 0, 0, 2, 0, 0, 2, 0, 0, 3);
        CHECKS.dueRow("knows none at first", Checks.knows(x, 0, 1), 0, -4);
        CHECKS.due("60 more since LAID", x.send(0, 1), 0);
    }

    private static void layingRefused() {
        ZigzagLines x = new ZigzagLines();
        CHECKS.due("lay of an empty text", x.lay(), ZigzagLines.NO);
        x.pick(1, 1);
        x.gather();
        Checks.write(x, "n2;c0;c9;");
        int[] ahead = Checks.counts(x);
        CHECKS.due("lay of a fault", x.lay(), ZigzagLines.NO);
        CHECKS.dueRow("nothing changes", Checks.counts(x), ahead);
    }

    private static void layingEndsPicksAndFreed() {
        ZigzagLines x = new ZigzagLines();
        x.pick(0, 3);
        x.pick(2, 1);
        CHECKS.due("freed ahead", x.gather(), 6);
        Checks.write(x, FIRST);
        CHECKS.due("lay the first text", x.lay(), 3);
        CHECKS.due("nothing is FREED", x.count(10), 0);
        CHECKS.due("nothing is PICKED", x.count(11), 0);
        CHECKS.due("unpick", x.unpick(), 0);
        for (int time = 0; time < 4; time++) {
            CHECKS.due("freed anew", x.gather(), 6);
            x.lay();
            CHECKS.due("nothing is FREED each time", x.count(10), 0);
        }
    }
}
