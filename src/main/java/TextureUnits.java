import java.util.NoSuchElementException;

/** Four units that read pictures from one memory; DOC.md says what each call answers. */
public final class TextureUnits {
    public static final int NONE = -1;

    private static final int UNITS = 4;
    private static final int WORDS = 2048;
    private static final int CHANNELS = 4;
    private static final int ALPHA = 3;
    private static final int GREATEST_LOGARITHM = 10;
    private static final int GREATEST_LEVELS = 11;
    private static final int GREATEST_FORMAT = 7;
    private static final int GREATEST_MANNER = 3;

    private static final int ONE = 65536;
    private static final int HALF = 32768;
    private static final int FRACTION = 65535;
    private static final int FRACTION_BITS = 16;

    private static final int REPEATED = 0;
    private static final int CUT = 1;
    private static final int MIRRORED = 2;

    private static final int LINEAR = 1;
    private static final int LEVELS = 2;
    private static final int BOTH = 3;

    private static final int[] TEXEL_BITS = {32, 16, 16, 16, 8, 8, 16, 4};

    /** Four entries a format (r, g, b, a); 0 bits: the format doesn't tell the channel. */
    private static final int[] CHANNEL_BITS = {
        8, 8, 8, 8,
        5, 6, 5, 0,
        4, 4, 4, 4,
        5, 5, 5, 1,
        8, 8, 8, 0,
        0, 0, 0, 8,
        8, 8, 8, 8,
        4, 4, 4, 0};

    /** The lowest bit of each channel; brightness is one field that r, g and b share. */
    private static final int[] CHANNEL_START = {
        0, 8, 16, 24,
        0, 5, 11, 0,
        0, 4, 8, 12,
        0, 5, 10, 15,
        0, 0, 0, 0,
        0, 0, 0, 0,
        0, 0, 0, 8,
        0, 0, 0, 0};

    private final int[] words;
    private final Unit[] units;
    private final int[] latest;
    private final int[] nextLevel;

    public TextureUnits() {
        words = new int[WORDS];
        units = new Unit[UNITS];
        for (int k = 0; k < UNITS; k++) {
            units[k] = new Unit();
        }
        latest = new int[CHANNELS];
        nextLevel = new int[CHANNELS];
    }

    public void poke(int k, int v) throws IndexOutOfBoundsException {
        if (!within(k, 0, WORDS - 1)) {
            throw new IndexOutOfBoundsException("no such word");
        }
        words[k] = v;
    }

    public void picture(int unit, int from, int a, int b, int levels, int format)
            throws NoSuchElementException, IllegalArgumentException {
        Unit u = unitAt(unit);
        if (from < 0) {
            throw new IllegalArgumentException("from is below 0");
        }
        if (!within(a, 0, GREATEST_LOGARITHM) || !within(b, 0, GREATEST_LOGARITHM)) {
            throw new IllegalArgumentException("no such logarithm");
        }
        if (!within(levels, 1, GREATEST_LEVELS)) {
            throw new IllegalArgumentException("no such count of levels");
        }
        if (!within(format, 0, GREATEST_FORMAT)) {
            throw new IllegalArgumentException("no such format");
        }
        u.from = from;
        u.format = format;
        u.layOut(a, b, levels);
    }

    public void manner(int unit, int across, int down, int filter)
            throws NoSuchElementException, IllegalArgumentException {
        Unit u = unitAt(unit);
        if (!within(across, 0, GREATEST_MANNER) || !within(down, 0, GREATEST_MANNER)) {
            throw new IllegalArgumentException("no such wrap");
        }
        if (!within(filter, 0, GREATEST_MANNER)) {
            throw new IllegalArgumentException("no such filter");
        }
        u.across = across;
        u.down = down;
        u.filter = filter;
    }

    public void border(int unit, int r, int g, int b, int a) throws NoSuchElementException {
        int[] colour = unitAt(unit).borderColour;
        colour[0] = r;
        colour[1] = g;
        colour[2] = b;
        colour[ALPHA] = a;
    }

    public int texel(int unit, int level, int x, int y, int channel)
            throws NoSuchElementException, IndexOutOfBoundsException {
        Unit u = unitAt(unit);
        if (!within(level, 0, u.levels - 1)) {
            throw new IndexOutOfBoundsException("no such level");
        }
        if (!within(x, 0, u.width(level) - 1) || !within(y, 0, u.height(level) - 1)) {
            throw new IndexOutOfBoundsException("no such texel");
        }
        if (!within(channel, 0, CHANNELS - 1)) {
            throw new IndexOutOfBoundsException("no such channel");
        }
        return stored(u, level, x, y, channel);
    }

    public int texels(int unit) throws NoSuchElementException {
        Unit u = unitAt(unit);
        return u.starts[u.levels];
    }

    public int read(int unit, int s, int t, int l) throws NoSuchElementException {
        Unit u = unitAt(unit);
        int lod = cut(l, 0, (u.levels - 1) << FRACTION_BITS);
        int level = lod >> FRACTION_BITS;
        sample(u, level, s, t, latest);
        boolean betweenLevels = u.filter == LEVELS || u.filter == BOTH;
        if (betweenLevels && level + 1 < u.levels) {
            sample(u, level + 1, s, t, nextLevel);
            for (int c = 0; c < CHANNELS; c++) {
                latest[c] = mix(latest[c], nextLevel[c], lod & FRACTION);
            }
        }
        return latest[0];
    }

    public int also(int channel) throws IndexOutOfBoundsException {
        if (!within(channel, 0, CHANNELS - 1)) {
            throw new IndexOutOfBoundsException("no such channel");
        }
        return latest[channel];
    }

    private Unit unitAt(int unit) {
        if (!within(unit, 0, UNITS - 1)) {
            throw new NoSuchElementException("no such unit");
        }
        return units[unit];
    }

    private void sample(Unit u, int level, int s, int t, int[] into) {
        if (u.filter == LINEAR || u.filter == BOTH) {
            sampleFour(u, level, s, t, into);
        } else {
            sampleOne(u, level, s, t, into);
        }
    }

    private void sampleOne(Unit u, int level, int s, int t, int[] into) {
        int w = u.width(level);
        int h = u.height(level);
        int x = wrapped(u.across, whole((long) s * w), w);
        int y = wrapped(u.down, whole((long) t * h), h);
        for (int c = 0; c < CHANNELS; c++) {
            into[c] = storedOrBorder(u, level, x, y, c);
        }
    }

    private void sampleFour(Unit u, int level, int s, int t, int[] into) {
        int w = u.width(level);
        int h = u.height(level);
        long placeAcross = (long) s * w - HALF;
        long placeDown = (long) t * h - HALF;
        int left = wrapped(u.across, whole(placeAcross), w);
        int right = wrapped(u.across, whole(placeAcross) + 1, w);
        int upper = wrapped(u.down, whole(placeDown), h);
        int lower = wrapped(u.down, whole(placeDown) + 1, h);
        int f = rest(placeAcross);
        int g = rest(placeDown);
        for (int c = 0; c < CHANNELS; c++) {
            int first = mix(storedOrBorder(u, level, left, upper, c),
                    storedOrBorder(u, level, right, upper, c), f);
            int second = mix(storedOrBorder(u, level, left, lower, c),
                    storedOrBorder(u, level, right, lower, c), f);
            into[c] = mix(first, second, g);
        }
    }

    private int storedOrBorder(Unit u, int level, int x, int y, int channel) {
        if (x == NONE || y == NONE) {
            return u.borderColour[channel];
        }
        return stored(u, level, x, y, channel);
    }

    private int stored(Unit u, int level, int x, int y, int channel) {
        int entry = u.format * CHANNELS + channel;
        int greatest = (1 << CHANNEL_BITS[entry]) - 1;
        if (greatest == 0) {
            return channel == ALPHA ? ONE : 0;
        }
        long bit = (long) u.numberOf(level, x, y) * TEXEL_BITS[u.format];
        int shift = (int) (bit & 31) + CHANNEL_START[entry];
        int value = (wordAt(u.from + (bit >> 5)) >>> shift) & greatest;
        // greatest is odd, so its half, cut, rounds to the nearest and never meets a tie
        return (value * ONE + (greatest >> 1)) / greatest;
    }

    /** The place is a long: from may be the greatest int, and the texels lie behind it. */
    private int wordAt(long k) {
        if (k < 0 || k >= WORDS) {
            return 0;
        }
        return words[(int) k];
    }

    /** Masks do for mod: n is a power of 2, and a mask is right below 0 too. */
    private static int wrapped(int wrap, int i, int n) {
        switch (wrap) {
            case REPEATED:
                return i & (n - 1);
            case CUT:
                return cut(i, 0, n - 1);
            case MIRRORED:
                return mirrored(i, n);
            default:
                return within(i, 0, n - 1) ? i : NONE;
        }
    }

    private static int mirrored(int i, int n) {
        int j = i & (2 * n - 1);
        return j < n ? j : 2 * n - 1 - j;
    }

    /** In longs, as border colours may be any ints and so further apart than an int tells. */
    private static int mix(int p, int q, int f) {
        long apart = (long) q - p;
        return (int) (p + (apart * f >> FRACTION_BITS));
    }

    private static int whole(long place) {
        return (int) (place >> FRACTION_BITS);
    }

    private static int rest(long place) {
        return (int) (place & FRACTION);
    }

    private static int cut(int i, int lowest, int highest) {
        return Math.max(lowest, Math.min(highest, i));
    }

    private static boolean within(int i, int lowest, int highest) {
        return i >= lowest && i <= highest;
    }

    private static final class Unit {
        int from;
        int format;
        int logWidth;
        int logHeight;
        int levels;
        int across;
        int down;
        int filter;
        final int[] borderColour;
        /** How many texels lie before each level; the entry behind the last level counts all. */
        final int[] starts;

        Unit() {
            borderColour = new int[CHANNELS];
            starts = new int[GREATEST_LEVELS + 1];
            layOut(0, 0, 1);
        }

        void layOut(int a, int b, int count) {
            logWidth = a;
            logHeight = b;
            levels = count;
            for (int k = 0; k < GREATEST_LEVELS; k++) {
                starts[k + 1] = starts[k] + width(k) * height(k);
            }
        }

        int width(int level) {
            return level < logWidth ? 1 << (logWidth - level) : 1;
        }

        int height(int level) {
            return level < logHeight ? 1 << (logHeight - level) : 1;
        }

        int numberOf(int level, int x, int y) {
            return starts[level] + y * width(level) + x;
        }
    }
}
