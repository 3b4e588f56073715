/** Terms: the four wraps at their ends, for every length, in both directions, of one texel and of four. */
public final class WrapEdgeTest {
    private static final int BORDER = -777;

    public static void main(String[] args) {
        for (int logarithm = 0; logarithm <= 10; logarithm++) {
            for (int wrap = 0; wrap < 4; wrap++) {
                for (int direction = 0; direction < 2; direction++) {
                    oneTexelAtEveryEnd(logarithm, wrap, direction);
                    fourTexelsOverEveryEnd(logarithm, wrap, direction);
                    theFurthestPlaces(logarithm, wrap, direction);
                }
            }
        }
        borderOfOneDirection();
        borderForOneTwoAndThreeOfFour();
        Check.end();
    }

    /** The two first and two last places have a brightness of their own. */
    private static int shade(int place, int n) {
        if (place < 0) {
            return BORDER;
        }
        int byEnd = place == n - 1 ? 40 : place == 1 ? 20 : place == n - 2 ? 30 : 0;
        return 257 * (place == 0 ? 10 : byEnd);
    }

    private static TextureUnits line(int logarithm, int wrap, int direction, int filter) {
        TextureUnits x = new TextureUnits();
        int n = 1 << logarithm;
        int[] words = new int[256];
        for (int k = 0; k < n; k++) {
            words[k / 4] |= shade(k, n) / 257 << k % 4 * 8;
        }
        for (int k = 0; k < 256; k++) {
            if (words[k] != 0) {
                x.poke(k, words[k]);
            }
        }
        x.border(0, BORDER, BORDER, BORDER, BORDER);
        x.picture(0, 0, direction == 0 ? logarithm : 0, direction == 0 ? 0 : logarithm, 1, 4);
        x.manner(0, direction == 0 ? wrap : 0, direction == 0 ? 0 : wrap, filter);
        return x;
    }

    private static int readAt(TextureUnits x, int direction, int place) {
        return direction == 0 ? x.read(0, place, 32768, 0) : x.read(0, 32768, place, 0);
    }

    /** By walking from i into the length, as the document's words go; -1 is no texel. */
    private static int walked(int wrap, int i, int n) {
        if (wrap == 1) {
            return i < 0 ? 0 : i > n - 1 ? n - 1 : i;
        }
        if (wrap == 3) {
            return i < 0 || i > n - 1 ? -1 : i;
        }
        int turn = wrap == 0 ? n : 2 * n;
        int j = i;
        while (j < 0) {
            j += turn;
        }
        while (j >= turn) {
            j -= turn;
        }
        return j < n ? j : 2 * n - 1 - j;
    }

    private static int[] ends(int n) {
        return new int[] {
            -4 * n, -3 * n - 1, -3 * n, -2 * n - 1, -2 * n, -2 * n + 1, -n - 2, -n - 1, -n, -n + 1, -2, -1, 0, 1,
            n - 2, n - 1, n, n + 1, 2 * n - 2, 2 * n - 1, 2 * n, 2 * n + 1, 3 * n - 1, 3 * n, 4 * n - 1, 4 * n};
    }

    private static void oneTexelAtEveryEnd(int logarithm, int wrap, int direction) {
        TextureUnits x = line(logarithm, wrap, direction, 0);
        int n = 1 << logarithm;
        for (int i : ends(n)) {
            int due = shade(walked(wrap, i, n), n);
            String what = "wrap " + wrap + ", place " + i + " of " + n + ", direction " + direction;
            Check.due(what + ", its first", readAt(x, direction, i * (65536 / n)), due);
            Check.due(what + ", its last", readAt(x, direction, (i + 1) * (65536 / n) - 1), due);
        }
    }

    /** Half way between places i and i + 1, where the other direction has one texel: both are wrapped. */
    private static void fourTexelsOverEveryEnd(int logarithm, int wrap, int direction) {
        TextureUnits x = line(logarithm, wrap, direction, 1);
        int n = 1 << logarithm;
        for (int i : ends(n)) {
            int first = shade(walked(wrap, i, n), n);
            int second = shade(walked(wrap, i + 1, n), n);
            String what = "wrap " + wrap + ", places " + i + " and the next of " + n + ", direction " + direction;
            Check.due(what, readAt(x, direction, (i + 1) * (65536 / n)), first + Math.floorDiv(second - first, 2));
        }
    }

    /** "of the exact product", "exact": the least and the greatest s and t stand 32768 lengths off. */
    private static void theFurthestPlaces(int logarithm, int wrap, int direction) {
        int n = 1 << logarithm;
        int least = Integer.MIN_VALUE;
        int greatest = Integer.MAX_VALUE;
        int[] atLeast = {shade(0, n), shade(0, n), shade(0, n), BORDER};
        int[] atGreatest = {shade(n - 1, n), shade(n - 1, n), shade(0, n), BORDER};
        int[] beforeLeast = {shade(n - 1, n), shade(0, n), shade(0, n), BORDER};
        int[] behindGreatest = {shade(0, n), shade(n - 1, n), shade(0, n), BORDER};
        String what = "wrap " + wrap + ", " + n + " long, direction " + direction;
        TextureUnits one = line(logarithm, wrap, direction, 0);
        Check.due(what + ", the least", readAt(one, direction, least), atLeast[wrap]);
        Check.due(what + ", the greatest", readAt(one, direction, greatest), atGreatest[wrap]);
        TextureUnits four = line(logarithm, wrap, direction, 1);
        Check.due(what + ", the least of four", readAt(four, direction, least),
            beforeLeast[wrap] + Math.floorDiv(atLeast[wrap] - beforeLeast[wrap], 2));
        // s * n, less 32768, is n short of half way to the next place.
        long left = 32768 - n;
        Check.due(what + ", the greatest of four", readAt(four, direction, greatest),
            atGreatest[wrap] + Math.floorDiv((behindGreatest[wrap] - atGreatest[wrap]) * left, 65536L));
    }

    private static void borderOfOneDirection() {
        for (int other = 0; other < 3; other++) {
            TextureUnits x = new TextureUnits();
            x.poke(0, -1);
            x.border(0, 1, 2, 3, 4);
            x.manner(0, 3, other, 0);
            Check.reading(x, Check.at(0, -1, 99999, 0), 1, 2, 3, 4);
            Check.reading(x, Check.at(0, 65536, -99999, 0), 1, 2, 3, 4);
            Check.reading(x, Check.at(0, 65535, -99999, 0), 65536, 65536, 65536, 65536);
            x.manner(0, other, 3, 0);
            Check.reading(x, Check.at(0, 99999, -1, 0), 1, 2, 3, 4);
            Check.reading(x, Check.at(0, -99999, 65536, 0), 1, 2, 3, 4);
            Check.reading(x, Check.at(0, -99999, 65535, 0), 65536, 65536, 65536, 65536);
        }
    }

    /** A texel of ones alone, a border of -65536: what is not border lifts the mix. */
    private static void borderForOneTwoAndThreeOfFour() {
        TextureUnits x = new TextureUnits();
        for (int k = 0; k < 4; k++) {
            x.poke(k, -1);
        }
        x.picture(0, 0, 1, 1, 1, 0);
        x.border(0, -65536, -65536, -65536, -65536);
        x.manner(0, 3, 3, 1);
        Check.due("none of four", x.read(0, 32768, 32768, 0), 65536);
        Check.due("two of four, left", x.read(0, 0, 32768, 0), 0);
        Check.due("two of four, right", x.read(0, 65536, 32768, 0), 0);
        Check.due("two of four, above", x.read(0, 32768, 0, 0), 0);
        Check.due("two of four, below", x.read(0, 32768, 65536, 0), 0);
        Check.due("three of four, above left", x.read(0, 0, 0, 0), -32768);
        Check.due("three of four, above right", x.read(0, 65536, 0, 0), -32768);
        Check.due("three of four, below left", x.read(0, 0, 65536, 0), -32768);
        Check.due("three of four, below right", x.read(0, 65536, 65536, 0), -32768);
        Check.due("all of four", x.read(0, 98304, 32768, 0), -65536);
    }
}
