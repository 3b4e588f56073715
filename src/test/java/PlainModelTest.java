import java.math.BigInteger;
import java.util.Random;

/** Runs of 512 calls, drawn from fixed seeds, beside a model that follows the document's words bit by bit. */
public final class PlainModelTest {
    private static final int RUNS = 400;
    private static final int CALLS = 512;
    private static final int[] EDGES = {
        Integer.MIN_VALUE, Integer.MIN_VALUE + 1, -131072, -65537, -65536, -32769, -32768, -1, 0, 1, 2, 3, 4, 7, 8,
        10, 11, 12, 2047, 2048, 16384, 32767, 32768, 32769, 65535, 65536, 65537, 131072, 655359, 655360, 655361,
        Integer.MAX_VALUE - 1, Integer.MAX_VALUE};

    private static final String[] FORMATS = {
        "rrrrrrrrggggggggbbbbbbbbaaaaaaaa", "rrrrrggggggbbbbb", "rrrrggggbbbbaaaa", "rrrrrgggggbbbbba",
        "llllllll", "aaaaaaaa", "llllllllaaaaaaaa", "llll"};

    /** One object in the document's words, with nothing worked out before it is asked for. */
    private static final class Model {
        final int[] words = new int[2048];
        final int[][] units = new int[4][8];
        final int[][] borders = new int[4][4];
        int[] latest = new int[4];

        Model() {
            for (int[] u : units) {
                u[3] = 1;
            }
        }

        int size(int unit, int which, int level) {
            int logarithm = units[unit][which] - level;
            int size = 1;
            for (int k = 0; k < logarithm; k++) {
                size *= 2;
            }
            return size;
        }

        int before(int unit, int level) {
            int sum = 0;
            for (int k = 0; k < level; k++) {
                sum += size(unit, 1, k) * size(unit, 2, k);
            }
            return sum;
        }

        boolean bit(int from, long k) {
            long word = from + k / 32;
            return word < 2048 && (words[(int) word] >> (k % 32) & 1) == 1;
        }

        int channel(int unit, int level, int x, int y, int c) {
            String bits = FORMATS[units[unit][4]];
            long n = before(unit, level) + (long) y * size(unit, 1, level) + x;
            char letter = "rgba".charAt(c);
            char told = c < 3 && bits.indexOf('l') >= 0 ? 'l' : letter;
            long value = 0;
            long greatest = 0;
            for (int k = bits.length() - 1; k >= 0; k--) {
                if (bits.charAt(k) == told) {
                    value = value * 2 + (bit(units[unit][0], n * bits.length() + k) ? 1 : 0);
                    greatest = greatest * 2 + 1;
                }
            }
            if (greatest == 0) {
                return c == 3 ? 65536 : 0;
            }
            long best = 0;
            for (long k = value * 65536 / greatest; k <= value * 65536 / greatest + 1; k++) {
                if (Math.abs(k * greatest - value * 65536) < Math.abs(best * greatest - value * 65536)) {
                    best = k;
                }
            }
            return (int) best;
        }

        int placed(int wrap, BigInteger i, int n) {
            BigInteger length = BigInteger.valueOf(n);
            if (wrap == 0) {
                return i.mod(length).intValueExact();
            }
            if (wrap == 1) {
                return i.max(BigInteger.ZERO).min(BigInteger.valueOf(n - 1)).intValueExact();
            }
            if (wrap == 2) {
                int j = i.mod(BigInteger.valueOf(2L * n)).intValueExact();
                return j < n ? j : 2 * n - 1 - j;
            }
            return i.signum() >= 0 && i.compareTo(length) < 0 ? i.intValueExact() : -1;
        }

        int shown(int unit, int level, BigInteger i, BigInteger j, int c) {
            int x = placed(units[unit][5], i, size(unit, 1, level));
            int y = placed(units[unit][6], j, size(unit, 2, level));
            return x < 0 || y < 0 ? borders[unit][c] : channel(unit, level, x, y, c);
        }

        static BigInteger down(BigInteger p) {
            BigInteger one = BigInteger.valueOf(65536);
            return p.subtract(p.mod(one)).divide(one);
        }

        static int mixed(int p, int q, BigInteger f) {
            BigInteger apart = BigInteger.valueOf(q).subtract(BigInteger.valueOf(p));
            return BigInteger.valueOf(p).add(down(apart.multiply(f))).intValueExact();
        }

        int sampled(int unit, int level, int s, int t, int c) {
            BigInteger across = BigInteger.valueOf(s).multiply(BigInteger.valueOf(size(unit, 1, level)));
            BigInteger along = BigInteger.valueOf(t).multiply(BigInteger.valueOf(size(unit, 2, level)));
            if (units[unit][7] % 2 == 0) {
                return shown(unit, level, down(across), down(along), c);
            }
            BigInteger half = BigInteger.valueOf(32768);
            BigInteger one = BigInteger.valueOf(65536);
            across = across.subtract(half);
            along = along.subtract(half);
            BigInteger u = down(across);
            BigInteger v = down(along);
            BigInteger u1 = u.add(BigInteger.ONE);
            BigInteger v1 = v.add(BigInteger.ONE);
            int first = mixed(shown(unit, level, u, v, c), shown(unit, level, u1, v, c), across.mod(one));
            int second = mixed(shown(unit, level, u, v1, c), shown(unit, level, u1, v1, c), across.mod(one));
            return mixed(first, second, along.mod(one));
        }

        int read(int unit, int s, int t, int l) {
            int lod = Math.min(Math.max(l, 0), 65536 * (units[unit][3] - 1));
            int level = lod / 65536;
            int[] answer = new int[4];
            for (int c = 0; c < 4; c++) {
                answer[c] = sampled(unit, level, s, t, c);
                if (units[unit][7] >= 2 && level + 1 < units[unit][3]) {
                    int next = sampled(unit, level + 1, s, t, c);
                    answer[c] = mixed(answer[c], next, BigInteger.valueOf(lod % 65536));
                }
            }
            latest = answer;
            return answer[0];
        }
    }

    private static final String NO_UNIT = "NoSuchElementException";
    private static final String NO_PLACE = "IndexOutOfBoundsException";
    private static final String BAD = "IllegalArgumentException";

    private final Random random;
    private final Model model = new Model();
    private final TextureUnits real = new TextureUnits();

    private PlainModelTest(long seed) {
        random = new Random(seed);
    }

    public static void main(String[] args) {
        for (int run = 0; run < RUNS; run++) {
            PlainModelTest test = new PlainModelTest(run);
            for (int call = 0; call < CALLS; call++) {
                int[] a = test.arguments();
                String due = test.expected(a);
                String got = test.answered(a);
                if (!due.equals(got)) {
                    Check.say("run " + run + " call " + call + " " + java.util.Arrays.toString(a)
                        + " answered " + got + ", due is " + due);
                }
            }
        }
        Check.end();
    }

    private int any() {
        int kind = random.nextInt(4);
        if (kind == 0) {
            return EDGES[random.nextInt(EDGES.length)];
        }
        return kind == 1 ? random.nextInt() : random.nextInt(400000) - 150000;
    }

    /** Mostly what there is; now and then any int. */
    private int mostly(int lowest, int highest) {
        return random.nextInt(40) == 0 ? any() : lowest + random.nextInt(highest - lowest + 1);
    }

    private int[] arguments() {
        int unit = mostly(0, 3);
        int kind = random.nextInt(20);
        if (kind < 6) {
            return new int[] {0, random.nextInt(3) == 0 ? mostly(0, 2047) : mostly(0, 40), random.nextInt()};
        }
        if (kind < 8) {
            int from = random.nextInt(3) == 0 ? mostly(0, 2060) : mostly(0, 8);
            int a = random.nextInt(3) == 0 ? mostly(0, 10) : mostly(0, 3);
            int b = random.nextInt(3) == 0 ? mostly(0, 10) : mostly(0, 3);
            return new int[] {1, unit, from, a, b, mostly(1, 11), mostly(0, 7)};
        }
        if (kind < 10) {
            return new int[] {2, unit, mostly(0, 3), mostly(0, 3), mostly(0, 3)};
        }
        if (kind < 11) {
            return new int[] {3, unit, any(), any(), any(), any()};
        }
        if (kind < 13) {
            return new int[] {4, unit, mostly(0, 2), mostly(0, 4), mostly(0, 4), mostly(0, 3)};
        }
        if (kind < 14) {
            return new int[] {5, unit};
        }
        if (kind < 18) {
            return new int[] {6, unit, any(), any(), any()};
        }
        return new int[] {7, mostly(0, 3)};
    }

    private static boolean in(int v, int lowest, int highest) {
        return v >= lowest && v <= highest;
    }

    private String expected(int[] a) {
        if (a[0] == 0) {
            if (!in(a[1], 0, 2047)) {
                return NO_PLACE;
            }
            model.words[a[1]] = a[2];
            return "";
        }
        if (a[0] == 7) {
            return in(a[1], 0, 3) ? "" + model.latest[a[1]] : NO_PLACE;
        }
        if (!in(a[1], 0, 3)) {
            return NO_UNIT;
        }
        return a[0] <= 3 ? expectedOfSetting(a) : expectedOfAsking(a);
    }

    private String expectedOfSetting(int[] a) {
        int[] unit = model.units[a[1]];
        if (a[0] == 1) {
            if (a[2] < 0 || !in(a[3], 0, 10) || !in(a[4], 0, 10) || !in(a[5], 1, 11) || !in(a[6], 0, 7)) {
                return BAD;
            }
            System.arraycopy(a, 2, unit, 0, 5);
        } else if (a[0] == 2) {
            if (!in(a[2], 0, 3) || !in(a[3], 0, 3) || !in(a[4], 0, 3)) {
                return BAD;
            }
            System.arraycopy(a, 2, unit, 5, 3);
        } else {
            System.arraycopy(a, 2, model.borders[a[1]], 0, 4);
        }
        return "";
    }

    private String expectedOfAsking(int[] a) {
        int levels = model.units[a[1]][3];
        if (a[0] == 5) {
            return "" + model.before(a[1], levels);
        }
        if (a[0] == 6) {
            return "" + model.read(a[1], a[2], a[3], a[4]);
        }
        if (!in(a[2], 0, levels - 1) || !in(a[3], 0, model.size(a[1], 1, a[2]) - 1)
                || !in(a[4], 0, model.size(a[1], 2, a[2]) - 1) || !in(a[5], 0, 3)) {
            return NO_PLACE;
        }
        return "" + model.channel(a[1], a[2], a[3], a[4], a[5]);
    }

    private String answered(int[] a) {
        try {
            switch (a[0]) {
                case 0: real.poke(a[1], a[2]); return "";
                case 1: real.picture(a[1], a[2], a[3], a[4], a[5], a[6]); return "";
                case 2: real.manner(a[1], a[2], a[3], a[4]); return "";
                case 3: real.border(a[1], a[2], a[3], a[4], a[5]); return "";
                case 4: return "" + real.texel(a[1], a[2], a[3], a[4], a[5]);
                case 5: return "" + real.texels(a[1]);
                case 6: return "" + real.read(a[1], a[2], a[3], a[4]);
                default: return "" + real.also(a[1]);
            }
        } catch (RuntimeException e) {
            return e.getClass().getSimpleName();
        }
    }
}
