import java.util.Random;

/**
 * The sentences on letters, ITEMS, FAULT and LAID, at their limits: each place of each ITEM with
 * every letter that can be written, full TEXTS, and drawn TEXTS compared with a slow reading.
 */
public final class TextEdgesTest {
    private static final Checks CHECKS = new Checks("TextEdgesTest");
    private static final int NONE = ZigzagLines.NONE;
    private static final int NO = ZigzagLines.NO;

    public static void main(String[] args) {
        everyLetterAtEveryPlace();
        placeOfTheFault();
        firstItem();
        itemsNotEnded();
        itemsThatWouldBeRefused();
        messagesByTwoFigures();
        fullTexts();
        faultsAtTheEnd();
        allAsTold();
        modeAheadOfAny();
        emptyText();
        drawnTexts();
        CHECKS.end();
    }

    private static ZigzagLines written(String text) {
        ZigzagLines x = new ZigzagLines();
        Checks.write(x, text);
        return x;
    }

    /** The text's fault is due; without one it is laid, and with one it is not. */
    private static ZigzagLines fault(String text, int want) {
        ZigzagLines x = written(text);
        CHECKS.due("length of " + text, x.count(12), text.length());
        CHECKS.due("fault of " + text, x.fault(), want);
        boolean laid = want == NONE && !text.isEmpty();
        CHECKS.due("lay of " + text, x.lay(), laid ? text.charAt(1) - '0' : NO);
        CHECKS.due("fault of it still: " + text, x.fault(), want);
        return x;
    }

    /** Of the letters 32 to 126 just those told may stand between two parts of a text. */
    private static void only(String ahead, String behind, String allowed, int place) {
        for (char letter = 32; letter <= 126; letter++) {
            boolean fits = allowed.indexOf(letter) >= 0;
            fault(ahead + letter + behind, fits ? NONE : place);
        }
    }

    /** "each a letter, then figures, a ; behind them" */
    private static void everyLetterAtEveryPlace() {
        only("", "3;", "n", 0);
        only("n", ";", "2345", 0);
        only("n3", "", ";", 0);
        only("n3;", "0;", "mc", 3);
        only("n3;", "01;", "s", 3);
        only("n3;s01;", "00;", "r", 7);
        only("n3;m", ";", "0123", 3);
        only("n3;m0", "", ";", 3);
        only("n2;c", ";", "01", 3);
        only("n3;c", ";", "012", 3);
        only("n4;c", ";", "0123", 3);
        only("n5;c", ";", "01234", 3);
        only("n5;c0", "", ";", 3);
        only("n2;s", "1;", "0", 3);
        only("n5;s", "2;", "0134", 3);
        only("n5;s2", ";", "0134", 3);
        only("n2;s0", ";", "1", 3);
        only("n5;s21", "", ";", 3);
        only("n5;s21;s21;r0", ";", "01", 11);
        only("n5;s21;s21;r", "0;", "0", 11);
        only("n5;s21;r00", "", ";", 7);
    }

    /** "FAULT: the place of the first letter of the first ITEM that is not so." */
    private static void placeOfTheFault() {
        fault("n3;c0;c1;c9;c9;", 9);
        fault("n9;n9;", 0);
        fault("n3;x;n3;", 3);
        fault("n3;r00;s01;", 3);
        fault("n3;s01;r00;r01;r00;", 11);
        fault("n3;c0;c0c0;", 6);
        fault("n3;c0; c0;", 6);
        fault("n3;c0;c 0;", 6);
        fault("n3;c0;c0 ;", 6);
        fault("n3;c0;;c0;", 6);
        fault("n3;C0;", 3);
        fault("n3;S01;", 3);
        fault("n3;M0;", 3);
        fault("n3;s01;R00;", 7);
        fault("n3;c-1;", 3);
        fault("n3;m-;", 3);
        fault("n3;s0-1;", 3);
    }

    /** "told just once, ahead of all others" */
    private static void firstItem() {
        for (int n = 0; n <= 9; n++) {
            fault("n" + n + ";", n >= 2 && n <= 5 ? NONE : 0);
            fault("n3;n" + n + ";", 3);
            fault("n3;c0;n" + n + ";", 6);
            fault("n0" + n + ";", 0);
            fault("n" + n + "0;", 0);
        }
        fault("c0;n3;", 0);
        fault("m0;n3;", 0);
        fault("s01;n3;", 0);
        fault("r00;n3;", 0);
        fault("3;", 0);
        fault(";n3;", 0);
    }

    /** An item is one only with the semicolon behind it, and with just its figures. */
    private static void itemsNotEnded() {
        String[] items = {"m1;", "s12;", "r00;", "c1;"};
        for (String item : items) {
            for (int length = 1; length < item.length(); length++) {
                fault("n3;s01;" + item.substring(0, length), 7);
                fault("n3;s01;" + item.substring(0, length) + item, 7);
                fault("n3;s01;" + item + item.substring(0, length), 7 + item.length());
            }
            fault("n3;s01;" + item, NONE);
            fault("n3;s01;" + item.replace(";", "0;"), 7);
            fault("n3;s01;" + item.replace(";", "00;"), 7);
            fault("n3;s01;" + item.replace(";", ";;"), 7 + item.length());
            fault("n3;s01;" + item.charAt(0) + "0" + item.substring(1), 7);
        }
        fault("n", 0);
        fault("n3", 0);
    }

    /** "none that would be refused else" */
    private static void itemsThatWouldBeRefused() {
        String eleven = "c0;".repeat(11);
        fault("n2;" + eleven, NONE);
        fault("n2;" + eleven + "c0;", 36);
        fault("n2;" + eleven + "c1;", NONE);
        fault("n2;" + eleven + "c1;c0;", 39);
        // Forced by what is received: the twelfth state can be, the thirteenth can't.
        fault("n2;m3;" + "c0;".repeat(10) + "s01;s10;r01;", NONE);
        fault("n2;m3;" + "c0;".repeat(10) + "s01;s10;r01;c0;", 6 + 30 + 12);
        fault("n2;m3;" + eleven + "s01;s10;r01;", 6 + 33 + 8);
        fault("n2;m2;" + eleven + "s01;s10;r01;", 6 + 33 + 8);
        fault("n2;m0;" + eleven + "s01;s10;r01;", NONE);
        fault("n2;m3;" + eleven + "s10;r00;", NONE);
        fault("n3;m1;c1;s10;r00;" + "c0;".repeat(10), NONE);
        fault("n3;m1;c1;s10;r00;" + eleven, 17 + 30);
        fault("n2;m1;" + "c1;".repeat(11) + eleven + "s10;r00;", NONE);
        // "(it may be so already)" goes for MODES alone.
        fault("n3;m0;m0;m3;m3;m3;m0;", NONE);
        fault("n3;s01;r00;m2;r00;", 14);
        fault("n3;s11;", 3);
        fault("n3;s22;", 3);
        fault("n5;s44;", 3);
    }

    /** "MESSAGE NN (two figures)" */
    private static void messagesByTwoFigures() {
        String sends = "n2;" + "s01;".repeat(48);
        for (int m = 0; m <= 99; m++) {
            String figures = (m < 10 ? "0" : "") + m;
            fault(sends + "r" + figures + ";", m < 48 ? NONE : 195);
        }
        // Signs next to the figures are none, though their numbers would do.
        only(sends + "r0", ";", "0123456789", 195);
        only(sends + "r1", ";", "0123456789", 195);
        only(sends + "r4", ";", "01234567", 195);
        only(sends + "r", "0;", "01234", 195);
        only(sends + "r", "8;", "0123", 195);
        ZigzagLines x = fault(sends + "r47;", NONE);
        CHECKS.due("the last one is received", x.message(47, 5), 1);
        CHECKS.due("the one ahead is not", x.message(46, 5), 0);
        x = fault("n2;" + "s01;".repeat(21) + "r12;", NONE);
        CHECKS.due("12, not 21", x.message(12, 5), 1);
        CHECKS.due("one alone", x.count(4), 1);
    }

    /** "A TEXT is letters (200 at most)" */
    private static void fullTexts() {
        String full = "n2;" + "c0;".repeat(3) + "s01;".repeat(47);
        ZigzagLines x = fault(full, NONE);
        CHECKS.dueRow("laid at 200 letters", Checks.counts(x),
                2, 0, 47, 47, 0, 0, 5, 0, 0, 2, 0, 0, 200);
        CHECKS.due("the 201st", x.write(';'), ZigzagLines.FULL);
        CHECKS.due("it has no fault still", x.fault(), NONE);
        CHECKS.due("wipe of a full one", x.wipe(), 200);
        CHECKS.due("wipe again", x.wipe(), 0);
        CHECKS.due("there is room again", x.write('n'), 1);
        CHECKS.due("what was there is not", x.fault(), 0);
        x = fault("n2;" + "c0;".repeat(3) + "s01;".repeat(46) + "s01", 196);
        CHECKS.due("its last letter fits", x.write(';'), 200);
        CHECKS.due("so it is without a fault", x.fault(), NONE);
        ZigzagLines blank = new ZigzagLines();
        for (int length = 1; length <= 200; length++) {
            CHECKS.due("write", blank.write(32 + length % 95), length);
        }
        CHECKS.due("no more", blank.write(32), ZigzagLines.FULL);
        CHECKS.due("its fault", blank.fault(), 0);
    }

    private static void faultsAtTheEnd() {
        String most = "n2;" + "s01;".repeat(49);
        ZigzagLines x = fault(most, NONE);
        CHECKS.due("messages of 199 letters", x.count(2), 49);
        fault(most + "c", 199);
        fault(most + ";", 199);
        fault("n2;" + "s01;".repeat(48) + "s00;", 195);
        fault("n2;" + "c0;".repeat(3) + "s01;".repeat(46) + "s00;", 196);
        fault("n2;" + "c0;".repeat(3) + "s01;".repeat(46) + "s0;;", 196);
        fault("n2;" + "c0;".repeat(3) + "s01;".repeat(46) + "s012", 196);
        fault("n2;" + "c0;".repeat(3) + "s01;".repeat(46) + "c0;m", 199);
        fault("n2;" + "c0;".repeat(3) + "s01;".repeat(46) + "c;c1", 196);
    }

    /** "all as it told" */
    private static void allAsTold() {
        ZigzagLines x = fault("n4;c3;m2;s01;s10;s31;r00;c1;r02;r01;", NONE);
        CHECKS.dueRow("counts", Checks.counts(x), 4, 2, 3, 0, 3, 0, 8, 2, 0, 4, 0, 0, 36);
        CHECKS.dueRow("message 0", Checks.message(x, 0), 0, 1, 0, 1, 0, 1);
        CHECKS.dueRow("message 1", Checks.message(x, 1), 1, 0, 0, 1, 0, 1);
        CHECKS.dueRow("message 2", Checks.message(x, 2), 3, 1, 1, 2, 1, 1);
        CHECKS.dueRow("1 knows", Checks.knows(x, 1, 3), 0, 2, -4, 1);
        CHECKS.dueRow("0 knows", Checks.knows(x, 0, 2), 1, 0, -4, -4);
        // A new object is as its first text told: nothing else has been there.
        ZigzagLines first = new ZigzagLines();
        CHECKS.dueRow("0 at first", Checks.process(first, 0), 3, 2, 0, 0, 0, 1, 0);
        CHECKS.dueRow("1 at first", Checks.process(first, 1), 3, 2, 0, 0, 0, 1, 0);
        CHECKS.dueRow("2 at first", Checks.process(first, 2), 3, 2, 0, 0, 1, 1, 0);
        CHECKS.dueRow("0 knows at first", Checks.knows(first, 0, 3), 2, 1, 1);
        CHECKS.dueRow("1 knows at first", Checks.knows(first, 1, 3), 1, 2, 1);
        CHECKS.dueRow("2 knows at first", Checks.knows(first, 2, 3), 0, 1, 2);
        CHECKS.dueRow("under way at first", Checks.underway(first), 4);
        CHECKS.dueRow("message 4 at first", Checks.message(first, 4), 2, 1, 1, -4, 1, 0);
        ZigzagLines told = Checks.laid("n3;s01;c1;r00;s12;r01;c2;s20;c0;r02;s01;r03;c1;s21;c0;c2;");
        told.wipe();
        CHECKS.dueRow("all at first", Checks.all(first), Checks.all(told));
        CHECKS.dueRow("ways at first", Checks.ways(first), Checks.ways(told));
    }

    /** "MODE X (0 to 3; 0 ahead of any)" */
    private static void modeAheadOfAny() {
        ZigzagLines x = written("n2;s01;s10;r01;r00;m3;");
        x.mode(3);
        CHECKS.due("by MODE 3 it would be forced", x.lay(), 2);
        CHECKS.due("ahead of any MODE it is 0", x.count(7), 0);
        CHECKS.due("MODE as told", x.count(1), 3);
        CHECKS.due("laid in MODE 3", x.lay(), 2);
        CHECKS.due("none is forced again", x.count(7), 0);
        ZigzagLines y = written("n2;m1;m3;m2;m0;");
        y.lay();
        CHECKS.due("the last MODE told", y.count(1), 0);
        ZigzagLines z = written("n2;m3;s01;s10;r01;m0;r00;");
        z.lay();
        CHECKS.due("one is forced, one is not", z.count(7), 1);
        CHECKS.due("it is 0", z.process(0, 2), 1);
    }

    private static void emptyText() {
        ZigzagLines x = new ZigzagLines();
        CHECKS.due("fault of an empty one", x.fault(), NONE);
        CHECKS.due("lay of an empty one", x.lay(), NO);
        CHECKS.due("wipe of an empty one", x.wipe(), 0);
        CHECKS.due("P is as it was", x.count(0), 3);
        Checks.write(x, "n5;");
        x.lay();
        x.wipe();
        CHECKS.due("fault of a wiped one", x.fault(), NONE);
        CHECKS.due("lay of a wiped one", x.lay(), NO);
        CHECKS.due("what was laid stays", x.count(0), 5);
    }

    // ---- drawn texts

    private static void drawnTexts() {
        int laid = 0;
        for (int seed = 0; seed < 6000; seed++) {
            Random random = new Random(seed);
            String text = drawn(random);
            SlowText slow = new SlowText(text);
            ZigzagLines x = written(text);
            CHECKS.due("seed " + seed + " fault of " + text, x.fault(), slow.fault);
            if (slow.fault != NONE) {
                CHECKS.due("lay of " + text, x.lay(), NO);
                continue;
            }
            laid++;
            CHECKS.due("lay of " + text, x.lay(), slow.model.processes);
            compare(text, x, slow.model);
        }
        CHECKS.due("enough of them are laid", laid > 600 ? 1 : 0, 1);
    }

    private static String drawn(Random random) {
        int n = 2 + random.nextInt(4);
        StringBuilder text = new StringBuilder("n" + n + ";");
        int sent = 0;
        int next = 0;
        int items = random.nextInt(60);
        for (int i = 0; i < items; i++) {
            int kind = random.nextInt(10);
            if (kind < 4) {
                int a = random.nextInt(n);
                text.append("s").append(a).append((a + 1 + random.nextInt(n - 1)) % n).append(';');
                sent++;
            } else if (kind < 7 && next < sent) {
                text.append(next < 10 ? "r0" : "r").append(next).append(';');
                next++;
            } else if (kind < 9) {
                text.append('c').append(random.nextInt(n)).append(';');
            } else {
                text.append('m').append(random.nextInt(4)).append(';');
            }
        }
        text.setLength(Math.min(text.length(), 200));
        if (random.nextInt(2) == 0) {
            String signs = "nmsrc;0123456789 ";
            text.setCharAt(random.nextInt(text.length()), signs.charAt(random.nextInt(17)));
        }
        return text.toString();
    }

    private static void compare(String text, ZigzagLines x, NaiveModel model) {
        CHECKS.due("MODE of " + text, x.count(1), model.mode);
        CHECKS.due("messages of " + text, x.count(2), model.messages.size());
        int[] waiting = new int[model.underWay.size()];
        for (int i = 0; i < waiting.length; i++) {
            waiting[i] = model.underWay.get(i);
        }
        CHECKS.dueRow("under way of " + text, Checks.underway(x), waiting);
        for (int p = 0; p < model.processes; p++) {
            CHECKS.due("K of " + text, x.process(p, 0), model.kept(p));
            CHECKS.due("MARK of " + text, x.process(p, 1), model.last(p).mark);
            for (int q = 0; q < model.processes; q++) {
                int known = model.last(p).known[q];
                CHECKS.due("known of " + text, x.knows(p, model.kept(p), q),
                        known < 0 ? NONE : known);
            }
        }
    }

    /** Reads a text by cutting it at its semicolons. */
    private static final class SlowText {
        NaiveModel model;
        int fault = NONE;

        SlowText(String text) {
            int place = 0;
            while (place < text.length() && fault == NONE) {
                int end = text.indexOf(';', place);
                if (end < 0 || !does(text.substring(place, end))) {
                    fault = place;
                }
                place = end + 1;
            }
        }

        private boolean does(String item) {
            if (model == null) {
                if (!item.matches("n[2-5]")) {
                    return false;
                }
                model = new NaiveModel(item.charAt(1) - '0');
                return true;
            }
            String process = "[0-" + (model.processes - 1) + "]";
            if (item.matches("m[0-3]")) {
                model.mode = item.charAt(1) - '0';
                return true;
            }
            if (item.matches("c" + process)) {
                return model.save(item.charAt(1) - '0') >= 0;
            }
            if (item.matches("s" + process + process)) {
                int a = item.charAt(1) - '0';
                int b = item.charAt(2) - '0';
                return a != b && model.send(a, b) >= 0;
            }
            return item.matches("r[0-9][0-9]")
                    && model.receive(Integer.parseInt(item.substring(1))) >= 0;
        }
    }
}
