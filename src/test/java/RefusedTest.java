/**
 * "Of several the first in the order told; nothing changes then." Two objects do the same; one of
 * them is asked what is refused, too. Behind each refusal all that can be looked at is as it was,
 * and both go on alike: what messages carry, what is picked and THE TEXT show only then.
 */
public final class RefusedTest {
    private static final Checks CHECKS = new Checks("RefusedTest");
    private static final int BAD = ZigzagLines.BAD;
    private static final int NO = ZigzagLines.NO;
    private static final int FULL = ZigzagLines.FULL;
    private static final int NONE = ZigzagLines.NONE;
    private static final int LOW = Integer.MIN_VALUE;
    private static final int HIGH = Integer.MAX_VALUE;
    private static final String ELEVEN = "c1;c1;c1;c1;c1;c1;c1;c1;c1;c1;c1;";

    private final String name;
    private final ZigzagLines asked;
    private final ZigzagLines left;
    private int[] ahead;

    private RefusedTest(String name, String text) {
        this.name = name;
        asked = Checks.laid(text);
        left = Checks.laid(text);
    }

    public static void main(String[] args) {
        badNumbers("n2;");
        badNumbers("n3;s01;c1;r00;s12;r01;c2;s20;c0;r02;s01;r03;c1;s21;c0;c2;");
        badNumbers("n5;m1;c4;s43;s34;r00;");
        letters();
        texts();
        modes();
        saves();
        sends();
        receives();
        receivesThatWouldForce();
        lostMessages();
        picks();
        throughs();
        looks();
        looksChangeNothing();
        CHECKS.end();
    }

    // ---- two objects, of which one is asked more

    private interface Deed {
        int on(ZigzagLines x);
    }

    /** Both do it, and answer alike. */
    private void both(Deed deed) {
        int answer = deed.on(asked);
        CHECKS.due(name + ": both answer alike", answer, deed.on(left));
        ahead = Checks.all(asked);
    }

    /** One of them is refused, and stays as it was. */
    private void refused(String call, int want, Deed deed) {
        if (ahead == null) {
            ahead = Checks.all(asked);
        }
        CHECKS.due(name + ": " + call, deed.on(asked), want);
        CHECKS.dueRow(name + ": all behind " + call, Checks.all(asked), ahead);
    }

    private void alike(String when) {
        CHECKS.dueRow(name + ": alike " + when, Checks.all(asked), Checks.all(left));
    }

    /** Both go on till what is hidden has shown itself. */
    private void goOnAlike() {
        alike("at the end");
        CHECKS.dueRow(name + ": ways", Checks.ways(asked), Checks.ways(left));
        for (int p = 0; p < left.count(0); p++) {
            for (int i = left.process(p, 0); i >= 0; i--) {
                CHECKS.due(name + ": pick", asked.pick(p, i), left.pick(p, i));
                alike("with a pick");
            }
        }
        for (int m = 0; m < left.count(2); m++) {
            CHECKS.due(name + ": receive " + m, asked.receive(m), left.receive(m));
            alike("behind receive");
        }
        for (int z = 0; z < 4; z++) {
            CHECKS.due(name + ": drive", asked.drive(z, 9), left.drive(z, 9));
            alike("when driven");
            CHECKS.due(name + ": fail", asked.fail(1 << z % 2), left.fail(1 << z % 2));
            alike("behind fail");
            CHECKS.due(name + ": gather", asked.gather(), left.gather());
            alike("behind gather");
        }
        CHECKS.dueRow(name + ": ways behind", Checks.ways(asked), Checks.ways(left));
        CHECKS.due(name + ": lay", asked.lay(), left.lay());
        alike("behind lay");
        CHECKS.due(name + ": write", asked.write('n'), left.write('n'));
        alike("behind write");
    }

    // ---- numbers that are not told

    private static void badNumbers(String text) {
        RefusedTest t = new RefusedTest("numbers in " + text, text);
        t.both(x -> x.pick(0, 0));
        t.both(x -> x.pick(1, 1));
        t.both(x -> x.gather());
        int processes = t.left.count(0);
        int messages = t.left.count(2);
        int kept = t.left.process(0, 0);
        for (int p : new int[] {-1, processes, 5, LOW, HIGH}) {
            badProcess(t, p);
        }
        for (int i : new int[] {-1, kept + 1, 13, LOW, HIGH}) {
            badState(t, i);
        }
        for (int m : new int[] {-1, messages, 60, LOW, HIGH}) {
            t.refused("receive " + m, BAD, x -> x.receive(m));
            t.refused("message " + m, BAD, x -> x.message(m, 0));
        }
        for (int set : new int[] {-1, 1 << processes, LOW, HIGH}) {
            t.refused("fail " + set, BAD, x -> x.fail(set));
            t.refused("line " + set, BAD, x -> x.line(set, 0));
            t.refused("back " + set, BAD, x -> x.back(set, 0));
        }
        t.refused("fail of none", BAD, x -> x.fail(0));
        badOthers(t);
        t.goOnAlike();
    }

    private static void badProcess(RefusedTest t, int p) {
        t.refused("save " + p, BAD, x -> x.save(p));
        t.refused("send " + p, BAD, x -> x.send(p, 0));
        t.refused("send to " + p, BAD, x -> x.send(0, p));
        t.refused("send " + p + " to itself", BAD, x -> x.send(p, p));
        t.refused("pick " + p, BAD, x -> x.pick(p, 0));
        t.refused("process " + p, BAD, x -> x.process(p, 0));
        t.refused("knows " + p, BAD, x -> x.knows(p, 0, 0));
        t.refused("knows of " + p, BAD, x -> x.knows(0, 0, p));
        t.refused("saved " + p, BAD, x -> x.saved(p, 0, 0));
        t.refused("way " + p, BAD, x -> x.way(p, 0, 0, 0));
        t.refused("way to " + p, BAD, x -> x.way(0, 0, p, 0));
        t.refused("cause " + p, BAD, x -> x.cause(p, 0, 0, 0));
        t.refused("cause to " + p, BAD, x -> x.cause(0, 0, p, 0));
        t.refused("line of " + p, BAD, x -> x.line(1, p));
        t.refused("through " + p, BAD, x -> x.through(0, p));
    }

    private static void badState(RefusedTest t, int i) {
        t.refused("pick state " + i, BAD, x -> x.pick(0, i));
        t.refused("knows at " + i, BAD, x -> x.knows(0, i, 0));
        t.refused("saved at " + i, BAD, x -> x.saved(0, i, 0));
        t.refused("way from " + i, BAD, x -> x.way(0, i, 1, 0));
        t.refused("way to " + i, BAD, x -> x.way(1, 0, 0, i));
        t.refused("cause from " + i, BAD, x -> x.cause(0, i, 1, 0));
        t.refused("cause to " + i, BAD, x -> x.cause(1, 0, 0, i));
    }

    private static void badOthers(RefusedTest t) {
        t.refused("send 0 to itself", BAD, x -> x.send(0, 0));
        t.refused("send 1 to itself", BAD, x -> x.send(1, 1));
        for (int m : new int[] {-1, 4, LOW, HIGH}) {
            t.refused("mode " + m, BAD, x -> x.mode(m));
        }
        int[][] draws = {{-1, 1}, {10000, 1}, {0, 0}, {0, 61}, {LOW, 60}, {HIGH, 60}, {9999, LOW},
            {9999, HIGH}};
        for (int[] draw : draws) {
            t.refused("drive " + draw[0] + " " + draw[1], BAD, x -> x.drive(draw[0], draw[1]));
        }
        t.refused("underway -2", BAD, x -> x.underway(-2));
        for (int far : new int[] {-1, LOW, HIGH}) {
            t.refused("process what " + far, BAD, x -> x.process(0, far));
            t.refused("saved what " + far, BAD, x -> x.saved(0, 0, far));
            t.refused("back what " + far, BAD, x -> x.back(1, far));
            t.refused("through which " + far, BAD, x -> x.through(far, 0));
            t.refused("count " + far, BAD, x -> x.count(far));
        }
        t.refused("process what 7", BAD, x -> x.process(0, 7));
        t.refused("saved what 5", BAD, x -> x.saved(0, 0, 5));
        t.refused("back what 5", BAD, x -> x.back(1, 5));
        t.refused("through which 2", BAD, x -> x.through(2, 0));
        t.refused("count 13", BAD, x -> x.count(13));
    }

    // ---- told

    private static void letters() {
        String text = full("n3;m2;s01;s12;");
        RefusedTest t = new RefusedTest("a full TEXT", text);
        for (int letter : new int[] {31, 127, 0, -1, 256 + 'c', LOW, HIGH}) {
            t.refused("BAD ahead of FULL: write " + letter, BAD, x -> x.write(letter));
        }
        for (int letter : new int[] {32, 'c', ';', 126}) {
            t.refused("write " + letter, FULL, x -> x.write(letter));
        }
        CHECKS.due("it can be laid still", t.asked.lay(), t.left.lay());
        t.alike("laid");
        CHECKS.due("its length", t.asked.wipe(), 200);
        t.left.wipe();
        RefusedTest some = new RefusedTest("a TEXT", "n3;c0;");
        for (int letter : new int[] {31, 127, 0, -1, 256 + 'c', 65536 + 'c', LOW, HIGH}) {
            some.refused("write " + letter, BAD, x -> x.write(letter));
        }
        some.goOnAlike();
    }

    /** A text, made 200 letters long by what the processes 0 and 1 save and send. */
    private static String full(String text) {
        StringBuilder all = new StringBuilder(text);
        while ((200 - all.length()) % 4 != 0) {
            all.append("c0;");
        }
        while (all.length() < 200) {
            all.append("s10;");
        }
        return all.toString();
    }

    private static void texts() {
        RefusedTest empty = new RefusedTest("an empty TEXT", "n4;m1;s01;c0;");
        empty.both(x -> x.wipe());
        empty.both(x -> x.pick(2, 1));
        empty.refused("fault", NONE, x -> x.fault());
        empty.refused("lay", NO, x -> x.lay());
        empty.goOnAlike();
        String[] faulty = {"n", "n1;", "n6;", "c0;", "n2;c0;c0;c0;m3;s01;r00;x", "n5;s01;r00;r00;",
            "n2;" + ELEVEN + "c1;", "n2;m3;" + ELEVEN + "s10;s01;r01;", " "};
        for (String text : faulty) {
            RefusedTest t = new RefusedTest("the faulty TEXT " + text, "n3;m2;s01;c0;s10;r01;c1;");
            t.both(x -> x.pick(0, 1));
            t.both(x -> x.save(2));
            t.both(x -> x.gather());
            t.both(x -> x.wipe());
            t.both(x -> Checks.write(x, text));
            t.refused("lay", NO, x -> x.lay());
            t.refused("lay again", NO, x -> x.lay());
            t.goOnAlike();
        }
    }

    // ---- what processes do

    private static void modes() {
        for (int mode = 0; mode <= 3; mode++) {
            int so = mode;
            RefusedTest t = new RefusedTest("MODE " + mode, "n3;m" + mode + ";s10;s01;");
            t.refused("mode", NO, x -> x.mode(so));
            t.goOnAlike();
        }
    }

    private static void saves() {
        RefusedTest t = new RefusedTest("12 states", "n2;" + ELEVEN + "s10;");
        t.refused("save", FULL, x -> x.save(1));
        t.refused("BAD by its number", BAD, x -> x.save(2));
        t.both(x -> x.fail(2));
        t.refused("save behind fail of the last one", FULL, x -> x.save(1));
        t.goOnAlike();
    }

    private static void sends() {
        RefusedTest t = new RefusedTest("60 messages", "n3;c2;");
        for (int m = 0; m < 60; m++) {
            int a = m % 3;
            t.both(x -> x.send(a, (a + 1) % 3));
        }
        t.refused("send", FULL, x -> x.send(0, 1));
        t.refused("send", FULL, x -> x.send(2, 0));
        t.refused("BAD ahead of FULL: to itself", BAD, x -> x.send(0, 0));
        t.refused("BAD ahead of FULL: from 3", BAD, x -> x.send(3, 0));
        t.refused("BAD ahead of FULL: to 3", BAD, x -> x.send(0, 3));
        t.refused("the 61st is none", BAD, x -> x.receive(60));
        t.both(x -> x.receive(59));
        t.refused("FULL when some are received", FULL, x -> x.send(0, 1));
        t.both(x -> x.fail(1));
        t.refused("FULL when some are gone", FULL, x -> x.send(0, 1));
        t.goOnAlike();
    }

    private static void receives() {
        RefusedTest t = new RefusedTest("received", "n3;m3;s01;s01;r00;s10;");
        t.refused("receive again", NO, x -> x.receive(0));
        t.refused("the one behind the last", BAD, x -> x.receive(3));
        t.both(x -> x.receive(1));
        t.refused("receive again, sent since", NO, x -> x.receive(0));
        t.goOnAlike();
    }

    /** "FULL: it would be FORCED, and K is 12", in each MODE; NO comes ahead of it. */
    private static void receivesThatWouldForce() {
        for (int mode = 1; mode <= 3; mode++) {
            int so = mode;
            RefusedTest t = new RefusedTest("FULL in MODE " + mode, "n2;" + ELEVEN + "s01;s01;s01;");
            t.both(x -> x.receive(1));
            // MODE 1 forces by a mark above 11, to which 0 comes by a state more than 1 can have.
            if (mode == 1) {
                t.both(x -> x.mode(1));
                markAbove(t);
            } else {
                t.both(x -> x.save(0));
                t.both(x -> x.send(0, 1));
                t.both(x -> x.send(1, 0));
                t.both(x -> x.mode(so));
            }
            int last = mode == 1 ? t.left.count(2) - 1 : 3;
            t.refused("receive", FULL, x -> x.receive(last));
            t.refused("NO ahead of FULL", NO, x -> x.receive(1));
            t.refused("BAD ahead of FULL", BAD, x -> x.receive(60));
            t.goOnAlike();
        }
    }

    /** Gives 0 the mark 12: it is forced to 11 by what 1 sends, then saves. */
    private static void markAbove(RefusedTest t) {
        t.both(x -> x.send(1, 0));
        t.both(x -> x.receive(x.count(2) - 1));
        t.both(x -> x.save(0));
        CHECKS.due(t.name + ": its mark", t.left.process(0, 1), 12);
        t.both(x -> x.send(0, 1));
    }

    private static void lostMessages() {
        RefusedTest t = new RefusedTest("GONE", "n3;m3;c1;s10;s01;s12;r02;");
        t.both(x -> x.fail(2));
        t.refused("receive one that was under way", NO, x -> x.receive(0));
        t.refused("receive one that was received", NO, x -> x.receive(2));
        t.goOnAlike();
        RefusedTest full = new RefusedTest("GONE to a full one", "n2;" + ELEVEN + "m3;s10;s01;");
        full.both(x -> x.fail(1));
        full.refused("NO ahead of FULL", NO, x -> x.receive(1));
        full.goOnAlike();
    }

    // ---- lines

    private static void picks() {
        RefusedTest t = new RefusedTest("picked", "n3;c0;s01;r00;c1;");
        t.both(x -> x.pick(0, 2));
        t.both(x -> x.pick(1, 0));
        t.refused("pick it again", NO, x -> x.pick(0, 2));
        t.refused("pick the other again", NO, x -> x.pick(1, 0));
        t.refused("pick above K", BAD, x -> x.pick(1, 3));
        t.both(x -> x.fail(1));
        t.refused("pick it again, it is K now", NO, x -> x.pick(0, 2));
        t.goOnAlike();
    }

    private static void throughs() {
        RefusedTest t = new RefusedTest("through", "n3;s01;r00;c1;c0;s12;r01;c2;c2;");
        t.both(x -> x.pick(0, 0));
        t.both(x -> x.pick(1, 2));
        t.refused("no line, least", NONE, x -> x.through(0, 0));
        t.refused("no line, greatest", NONE, x -> x.through(1, 2));
        t.refused("BAD ahead of NONE: which", BAD, x -> x.through(2, 0));
        t.refused("BAD ahead of NONE: which", BAD, x -> x.through(-1, 0));
        t.refused("BAD ahead of NONE: p", BAD, x -> x.through(0, 3));
        t.both(x -> x.pick(2, 3));
        t.both(x -> x.fail(2));
        t.refused("NO ahead of NONE", NO, x -> x.through(0, 0));
        t.refused("NO ahead of NONE", NO, x -> x.through(1, 1));
        t.refused("BAD ahead of NO: which", BAD, x -> x.through(2, 0));
        t.refused("BAD ahead of NO: p", BAD, x -> x.through(1, 3));
        t.refused("BAD ahead of NO: the same above K", BAD, x -> x.pick(2, 3));
        t.goOnAlike();
    }

    private static void looks() {
        RefusedTest t = new RefusedTest("looks", "n3;s01;r00;s12;");
        t.refused("knows", NONE, x -> x.knows(0, 0, 1));
        t.refused("knows, now", NONE, x -> x.knows(0, 1, 2));
        t.refused("BAD ahead of NONE", BAD, x -> x.knows(0, 2, 1));
        t.refused("message", NONE, x -> x.message(1, 3));
        t.refused("underway", NONE, x -> x.underway(1));
        t.refused("underway", NONE, x -> x.underway(HIGH));
        t.refused("way", NONE, x -> x.way(0, 0, 2, 1));
        t.refused("cause", NONE, x -> x.cause(0, 0, 2, 1));
        t.refused("BAD way ahead of NONE", BAD, x -> x.way(0, 0, 2, 2));
        t.refused("BAD cause ahead of NONE", BAD, x -> x.cause(2, 2, 0, 0));
        t.goOnAlike();
    }

    /** Calls that only look change nothing, whatever they answer. */
    private static void looksChangeNothing() {
        for (int seed = 0; seed < 12; seed++) {
            int z = seed;
            RefusedTest t = new RefusedTest("looking " + seed, "n" + (2 + seed % 4) + ";m"
                    + seed % 3 + ";");
            t.both(x -> x.drive(z, 25));
            t.both(x -> x.pick(1, 1));
            Checks.ways(t.asked);
            t.asked.fault();
            CHECKS.dueRow("all behind looking", Checks.all(t.asked), t.ahead);
            t.goOnAlike();
        }
    }
}
