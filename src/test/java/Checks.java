import java.util.ArrayList;
import java.util.List;

/** Compares answers with those that are due, and ends a test with exit code 1 if one differs. */
final class Checks {
    private final String test;
    private int asked;
    private int wrong;

    Checks(String test) {
        this.test = test;
    }

    void due(String call, long got, long want) {
        asked++;
        if (got != want) {
            wrong++;
            if (wrong <= 40) {
                System.out.println(test + ": " + call + " answered " + got + ", due is " + want);
            }
        }
    }

    /** A row of answers of one kind, told together. */
    void dueRow(String call, int[] got, int... want) {
        due(call + " (how many)", got.length, want.length);
        for (int i = 0; i < got.length && i < want.length; i++) {
            due(call + " at " + i, got[i], want[i]);
        }
    }

    int wrongSoFar() {
        return wrong;
    }

    void end() {
        System.out.println(test + ": " + asked + " answers asked, " + wrong + " not as due");
        if (wrong != 0) {
            System.exit(1);
        }
    }

    /** Writes a text behind THE TEXT; answers the last call's answer. */
    static int write(ZigzagLines x, String text) {
        int last = 0;
        for (int i = 0; i < text.length(); i++) {
            last = x.write(text.charAt(i));
        }
        return last;
    }

    /** A new object with a text laid. */
    static ZigzagLines laid(String text) {
        ZigzagLines x = new ZigzagLines();
        write(x, text);
        if (x.lay() < 0) {
            throw new IllegalStateException("the test's own text is refused: " + text);
        }
        return x;
    }

    /** The state of each process on the line for a set. */
    static int[] line(ZigzagLines x, int set) {
        int[] row = new int[x.count(0)];
        for (int p = 0; p < row.length; p++) {
            row[p] = x.line(set, p);
        }
        return row;
    }

    static int[] through(ZigzagLines x, int which) {
        int[] row = new int[x.count(0)];
        for (int p = 0; p < row.length; p++) {
            row[p] = x.through(which, p);
        }
        return row;
    }

    static int[] underway(ZigzagLines x) {
        int[] row = new int[x.underway(-1)];
        for (int i = 0; i < row.length; i++) {
            row[i] = x.underway(i);
        }
        return row;
    }

    static int[] knows(ZigzagLines x, int p, int i) {
        int[] row = new int[x.count(0)];
        for (int q = 0; q < row.length; q++) {
            row[q] = x.knows(p, i, q);
        }
        return row;
    }

    static int[] back(ZigzagLines x, int set) {
        int[] row = new int[5];
        for (int what = 0; what < row.length; what++) {
            row[what] = x.back(set, what);
        }
        return row;
    }

    static int[] message(ZigzagLines x, int m) {
        int[] row = new int[6];
        for (int what = 0; what < row.length; what++) {
            row[what] = x.message(m, what);
        }
        return row;
    }

    static int[] saved(ZigzagLines x, int p, int i) {
        int[] row = new int[5];
        for (int what = 0; what < row.length; what++) {
            row[what] = x.saved(p, i, what);
        }
        return row;
    }

    static int[] process(ZigzagLines x, int p) {
        int[] row = new int[7];
        for (int what = 0; what < row.length; what++) {
            row[what] = x.process(p, what);
        }
        return row;
    }

    static int[] counts(ZigzagLines x) {
        int[] row = new int[13];
        for (int what = 0; what < row.length; what++) {
            row[what] = x.count(what);
        }
        return row;
    }

    /** All that can be looked at, but for ways; two objects that differ in it are not alike. */
    static int[] all(ZigzagLines x) {
        List<Integer> all = new ArrayList<>();
        add(all, counts(x));
        all.add(x.fault());
        add(all, underway(x));
        for (int p = 0; p < x.count(0); p++) {
            add(all, process(x, p));
            for (int i = 0; i < x.process(p, 0); i++) {
                add(all, saved(x, p, i));
                add(all, knows(x, p, i));
            }
            add(all, knows(x, p, x.process(p, 0)));
        }
        for (int m = 0; m < x.count(2); m++) {
            add(all, message(x, m));
        }
        for (int set = 0; set < 1 << x.count(0); set++) {
            add(all, line(x, set));
            add(all, back(x, set));
        }
        add(all, through(x, 0));
        add(all, through(x, 1));
        return plain(all);
    }

    /** The fewest messages of every way and of every cause. */
    static int[] ways(ZigzagLines x) {
        List<Integer> all = new ArrayList<>();
        for (int p = 0; p < x.count(0); p++) {
            for (int q = 0; q < x.count(0); q++) {
                for (int i = 0; i <= x.process(p, 0); i++) {
                    for (int j = 0; j <= x.process(q, 0); j++) {
                        all.add(x.way(p, i, q, j));
                        all.add(x.cause(p, i, q, j));
                    }
                }
            }
        }
        return plain(all);
    }

    private static void add(List<Integer> all, int[] row) {
        all.add(row.length);
        for (int number : row) {
            all.add(number);
        }
    }

    private static int[] plain(List<Integer> all) {
        int[] row = new int[all.size()];
        for (int i = 0; i < row.length; i++) {
            row[i] = all.get(i);
        }
        return row;
    }
}
