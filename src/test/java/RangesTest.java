import java.util.ArrayList;
import java.util.List;

/**
 * "BAD: a number is none that is told (PROCESSES, MESSAGES such as there are; states 0 to K)." Each
 * call of the face is asked with numbers around every limit that the document tells, the least and
 * the greatest int among them: it answers BAD for those that are not told, and for no other.
 */
public final class RangesTest {
    private static final Checks CHECKS = new Checks("RangesTest");

    private interface Call {
        int of(ZigzagLines x, int[] a);
    }

    private interface World {
        ZigzagLines made();
    }

    private static final int[] FEW = {Integer.MIN_VALUE, -2, -1, 0, 1, 2, 3, 4, 5, 6, 7, 11, 12, 13,
        256, 65536, Integer.MAX_VALUE};
    private static final int[] SOME = {Integer.MIN_VALUE, Integer.MIN_VALUE + 1, -65536, -256, -12,
        -2, -1, 0, 1, 2, 3, 4, 5, 6, 7, 8, 10, 11, 12, 13, 14, 31, 32, 33, 255, 256, 257, 65536,
        65537, 1 << 30, Integer.MAX_VALUE - 1, Integer.MAX_VALUE};

    public static void main(String[] args) {
        for (World world : worlds()) {
            looks(world.made());
            deeds(world);
        }
        letters();
        CHECKS.end();
    }

    // ---- the worlds that are asked

    private static List<World> worlds() {
        List<World> worlds = new ArrayList<>();
        worlds.add(ZigzagLines::new);
        for (int processes = 2; processes <= 5; processes++) {
            int n = processes;
            worlds.add(() -> Checks.laid("n" + n + ";"));
            worlds.add(() -> driven(n, 3));
            worlds.add(() -> driven(n, 40));
            worlds.add(() -> failed(n));
        }
        worlds.add(RangesTest::fewerProcesses);
        return worlds;
    }

    private static ZigzagLines driven(int processes, int times) {
        ZigzagLines x = Checks.laid("n" + processes + ";");
        for (int z = 0; z < times; z++) {
            x.drive(z, 60);
        }
        return x;
    }

    private static ZigzagLines failed(int processes) {
        ZigzagLines x = driven(processes, 2);
        x.pick(0, 1);
        x.gather();
        x.fail(1);
        x.drive(7, 5);
        x.fail(2);
        return x;
    }

    /** Five processes have been there ahead of the two that are. */
    private static ZigzagLines fewerProcesses() {
        ZigzagLines x = driven(5, 10);
        x.pick(4, 3);
        x.wipe();
        Checks.write(x, "n2;");
        x.lay();
        return x;
    }

    // ---- what is told

    private static boolean isProcess(ZigzagLines x, int p) {
        return 0 <= p && p <= x.count(0) - 1;
    }

    private static boolean isState(ZigzagLines x, int p, int i) {
        return isProcess(x, p) && 0 <= i && i <= x.process(p, 0);
    }

    private static boolean isSet(ZigzagLines x, int set) {
        for (int bit = 0; bit < 32; bit++) {
            if ((set >>> bit & 1) == 1 && !isProcess(x, bit)) {
                return false;
            }
        }
        return true;
    }

    private static boolean isMessage(ZigzagLines x, int m) {
        return 0 <= m && m <= x.count(2) - 1;
    }

    private static boolean isOf(int what, int last) {
        return 0 <= what && what <= last;
    }

    /** Every limit of the document with its neighbours, and what a narrow type would cut to it. */
    private static int[] many() {
        List<Integer> numbers = new ArrayList<>();
        int[] limits = {0, 5, 12, 32, 60, 64, 127, 200, 256, 9999, 32768, 65521, 65536, 1 << 24,
            1 << 30};
        for (int limit : limits) {
            for (int by = -3; by <= 3; by++) {
                addOnce(numbers, limit + by);
                addOnce(numbers, -limit + by);
                addOnce(numbers, Integer.MIN_VALUE + limit + by);
                addOnce(numbers, Integer.MAX_VALUE - limit - by);
            }
        }
        for (int number = -70; number <= 70; number++) {
            addOnce(numbers, number);
        }
        int[] row = new int[numbers.size()];
        for (int i = 0; i < row.length; i++) {
            row[i] = numbers.get(i);
        }
        return row;
    }

    private static void addOnce(List<Integer> numbers, int number) {
        if (!numbers.contains(number)) {
            numbers.add(number);
        }
    }

    // ---- what is looked at

    private static void looks(ZigzagLines x) {
        for (int a : many()) {
            expect("count " + a, x.count(a), isOf(a, 12));
            expect("underway " + a, x.underway(a), a >= -1);
            for (int b : SOME) {
                looksOfTwo(x, a, b);
                looksOfTwo(x, b, a);
            }
        }
        for (int a : SOME) {
            for (int b : SOME) {
                for (int c : SOME) {
                    looksOfThree(x, a, b, c);
                }
            }
        }
        for (int p : FEW) {
            for (int i : FEW) {
                looksOfFour(x, p, i);
            }
        }
    }

    private static void looksOfTwo(ZigzagLines x, int a, int b) {
        String told = " " + a + " " + b;
        expect("process" + told, x.process(a, b), isProcess(x, a) && isOf(b, 6));
        expect("message" + told, x.message(a, b), isMessage(x, a) && isOf(b, 5));
        expect("line" + told, x.line(a, b), isSet(x, a) && isProcess(x, b));
        expect("back" + told, x.back(a, b), isSet(x, a) && isOf(b, 4));
        expect("through" + told, x.through(a, b), isOf(a, 1) && isProcess(x, b));
    }

    private static void looksOfThree(ZigzagLines x, int a, int b, int c) {
        String told = " " + a + " " + b + " " + c;
        expect("knows" + told, x.knows(a, b, c), isState(x, a, b) && isProcess(x, c));
        boolean saved = isState(x, a, b) && b != x.process(a, 0);
        expect("saved" + told, x.saved(a, b, c), saved && isOf(c, 4));
    }

    private static void looksOfFour(ZigzagLines x, int p, int i) {
        for (int q : FEW) {
            for (int j : FEW) {
                String told = " " + p + " " + i + " " + q + " " + j;
                boolean taken = isState(x, p, i) && isState(x, q, j);
                expect("way" + told, x.way(p, i, q, j), taken);
                expect("cause" + told, x.cause(p, i, q, j), taken);
            }
        }
    }

    // ---- what is done

    private static void deeds(World world) {
        ZigzagLines x = world.made();
        int[] many = many();
        for (int a : many) {
            deed(world, "mode", (y, n) -> y.mode(n[0]), isOf(a, 3), a);
            deed(world, "save", (y, n) -> y.save(n[0]), isProcess(x, a), a);
            deed(world, "receive", (y, n) -> y.receive(n[0]), isMessage(x, a), a);
            deed(world, "fail", (y, n) -> y.fail(n[0]), a != 0 && isSet(x, a), a);
        }
        for (int a : SOME) {
            for (int b : SOME) {
                boolean others = isProcess(x, a) && isProcess(x, b) && a != b;
                deed(world, "send", (y, n) -> y.send(n[0], n[1]), others, a, b);
                deed(world, "pick", (y, n) -> y.pick(n[0], n[1]), isState(x, a, b), a, b);
            }
        }
        int[] draws = {0, 1, 2, 59, 60, 61, 9998, 9999, 10000, 10001, -1, -9999, 65536, 65537,
            Integer.MIN_VALUE, Integer.MIN_VALUE + 1, Integer.MAX_VALUE};
        for (int z : draws) {
            for (int n : draws) {
                boolean taken = isOf(z, 9999) && 1 <= n && n <= 60;
                deed(world, "drive", (y, a) -> y.drive(a[0], a[1]), taken, z, n);
            }
        }
    }

    private static void letters() {
        for (int letter : many()) {
            ZigzagLines x = new ZigzagLines();
            expect("write " + letter, x.write(letter), 32 <= letter && letter <= 126);
        }
        for (int letter = -300; letter <= 300; letter++) {
            ZigzagLines x = new ZigzagLines();
            CHECKS.due("write " + letter, x.write(letter),
                    32 <= letter && letter <= 126 ? 1 : ZigzagLines.BAD);
        }
    }

    private static void deed(World world, String name, Call call, boolean taken, int... numbers) {
        StringBuilder told = new StringBuilder(name);
        for (int number : numbers) {
            told.append(' ').append(number);
        }
        expect(told.toString(), call.of(world.made(), numbers), taken);
    }

    private static void expect(String call, int answer, boolean taken) {
        CHECKS.due(call + " is BAD", answer == ZigzagLines.BAD ? 1 : 0, taken ? 0 : 1);
    }
}
