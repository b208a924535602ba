import java.util.Random;

/**
 * Wild numbers in drawn calls: each call answers, none throws, and a refused call changes nothing.
 * A second object hears only the calls that were not refused, and stays like the first one.
 */
public final class WildTest {
    private static final Checks CHECKS = new Checks("WildTest");
    private static final int LAY = 3;
    private static final int[] WILD = {Integer.MIN_VALUE, Integer.MIN_VALUE + 1, -1000000, -65, -61,
        -32, -13, -5, -2, -1, 0, 1, 2, 3, 4, 5, 6, 7, 8, 11, 12, 13, 30, 31, 32, 33, 59, 60, 61, 63,
        64, 126, 127, 200, 9999, 10000, 65536, Integer.MAX_VALUE - 1, Integer.MAX_VALUE};

    public static void main(String[] args) {
        for (int seed = 0; seed < 300; seed++) {
            Random random = new Random(seed);
            ZigzagLines x = new ZigzagLines();
            ZigzagLines spared = new ZigzagLines();
            for (int step = 0; step < 512; step++) {
                step("seed " + seed + " step " + step, x, spared, random.nextLong());
                if (step % 32 == 31) {
                    CHECKS.dueRow("seed " + seed + " step " + step + " both", Checks.all(x),
                            Checks.all(spared));
                }
            }
            CHECKS.dueRow("seed " + seed + " ways", Checks.ways(x), Checks.ways(spared));
        }
        CHECKS.end();
    }

    private static void step(String at, ZigzagLines x, ZigzagLines spared, long draw) {
        int kind = new Random(draw).nextInt(25);
        int[] ahead = Checks.counts(x);
        int answer = call(x, kind, new Random(~draw));
        CHECKS.due(at + " answers at least NONE", Math.min(answer, ZigzagLines.NONE),
                ZigzagLines.NONE);
        if (answer >= 0 || kind == LAY) {
            CHECKS.due(at + " answers alike", call(spared, kind, new Random(~draw)), answer);
        } else {
            CHECKS.dueRow(at + " is refused", Checks.counts(x), ahead);
        }
    }

    private static int number(Random random) {
        return random.nextInt(3) == 0 ? WILD[random.nextInt(WILD.length)] : random.nextInt(4);
    }

    private static int letter(Random random) {
        String likely = "n2;n3;s01;s10;r00;c0;c1;m1;";
        return random.nextInt(20) == 0
                ? WILD[random.nextInt(WILD.length)] : likely.charAt(random.nextInt(likely.length()));
    }

    private static int call(ZigzagLines x, int kind, Random random) {
        int a = number(random);
        int b = number(random);
        int c = number(random);
        int d = number(random);
        switch (kind) {
            case 0: return x.write(letter(random));
            case 1: return random.nextInt(8) == 0 ? x.wipe() : x.write(letter(random));
            case 2: return x.fault();
            case LAY: return layed(x, random);
            case 4: return x.mode(a);
            case 5: return x.save(a);
            case 6: return x.send(a, b);
            case 7: return x.receive(random.nextBoolean() ? x.underway(0) : a);
            case 8: return random.nextInt(4) == 0 ? x.fail(a) : x.send(a, b);
            case 9: return x.gather();
            case 10: return x.drive(a, b);
            case 11: return x.process(a, b);
            case 12: return x.knows(a, b, c);
            case 13: return x.saved(a, b, c);
            case 14: return x.message(a, b);
            case 15: return x.underway(a);
            case 16: return x.way(a, b, c, d);
            case 17: return x.cause(a, b, c, d);
            case 18: return x.line(a, b);
            case 19: return x.back(a, b);
            case 20: return x.pick(a, b);
            case 21: return random.nextInt(4) == 0 ? x.unpick() : x.pick(a, b);
            case 22: return x.through(a, b);
            default: return x.count(a);
        }
    }

    /** Lays what stands, or now and then a text that it writes first, so both objects hear it. */
    private static int layed(ZigzagLines x, Random random) {
        if (random.nextInt(6) == 0) {
            x.wipe();
            Checks.write(x, "n" + (2 + random.nextInt(4)) + ";");
            x.lay();
        }
        return x.lay();
    }
}
