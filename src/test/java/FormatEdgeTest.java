/** Terms: the eight formats at their edges, and "what isn't told is 0 for r, g, b and the greatest for a". */
public final class FormatEdgeTest {
    private static final int[] BITS = {32, 16, 16, 16, 8, 8, 16, 4};

    /** For each format the bits of r, g, b and a in a texel; 0 where it isn't told. */
    private static final int[][] MASKS = {
        {0x000000FF, 0x0000FF00, 0x00FF0000, 0xFF000000},
        {0x001F, 0x07E0, 0xF800, 0},
        {0x000F, 0x00F0, 0x0F00, 0xF000},
        {0x001F, 0x03E0, 0x7C00, 0x8000},
        {0xFF, 0xFF, 0xFF, 0},
        {0, 0, 0, 0xFF},
        {0x00FF, 0x00FF, 0x00FF, 0xFF00},
        {0xF, 0xF, 0xF, 0}};

    public static void main(String[] args) {
        for (int format = 0; format < 8; format++) {
            noBitAndEveryBit(format);
            oneChannelAlone(format);
            neighboursDoNotShow(format);
            everyValueOfEveryChannel(format);
            everyPlaceInAWord(format);
        }
        Check.end();
    }

    private static TextureUnits of(int format) {
        TextureUnits x = new TextureUnits();
        x.picture(0, 0, 3, 0, 1, format);
        return x;
    }

    private static void noBitAndEveryBit(int format) {
        TextureUnits x = of(format);
        for (int c = 0; c < 4; c++) {
            int untold = c == 3 ? 65536 : 0;
            boolean told = MASKS[format][c] != 0;
            x.poke(0, 0);
            Check.due("format " + format + " of 0, channel " + c, x.texel(0, 0, 0, 0, c), told ? 0 : untold);
            x.poke(0, -1);
            Check.due("format " + format + " of ones, channel " + c, x.texel(0, 0, 0, 0, c), told ? 65536 : untold);
        }
        Check.reading(x, Check.at(0, 0, 0, 0), MASKS[format][0] != 0 ? 65536 : 0, MASKS[format][1] != 0 ? 65536 : 0,
            MASKS[format][2] != 0 ? 65536 : 0, 65536);
    }

    private static void oneChannelAlone(int format) {
        TextureUnits x = of(format);
        for (int alone = 0; alone < 4; alone++) {
            int mask = MASKS[format][alone];
            x.poke(0, mask);
            for (int c = 0; c < 4 && mask != 0; c++) {
                int other = c == 3 && MASKS[format][3] == 0 ? 65536 : 0;
                Check.due("format " + format + ", " + alone + " alone, channel " + c, x.texel(0, 0, 0, 0, c),
                    MASKS[format][c] == mask ? 65536 : other);
            }
        }
    }

    private static void neighboursDoNotShow(int format) {
        TextureUnits x = of(format);
        x.poke(1, -1);
        x.poke(0, BITS[format] == 32 ? 0 : -1 << BITS[format]);
        for (int c = 0; c < 4; c++) {
            int untold = c == 3 && MASKS[format][3] == 0 ? 65536 : 0;
            Check.due("format " + format + " beside ones, channel " + c, x.texel(0, 0, 0, 0, c), untold);
        }
    }

    /** "65536 times it, divided by 2^n - 1, to the nearest (no two are as near)". */
    private static void everyValueOfEveryChannel(int format) {
        for (int c = 0; c < 4; c++) {
            int mask = MASKS[format][c];
            if (mask == 0) {
                continue;
            }
            TextureUnits x = of(format);
            int greatest = mask >>> Integer.numberOfTrailingZeros(mask);
            for (int v = 0; v <= greatest && v < 255; v++) {
                x.poke(0, v << Integer.numberOfTrailingZeros(mask));
                long got = x.texel(0, 0, 0, 0, c);
                Check.due("format " + format + ", channel " + c + ", " + v + " is near: " + got,
                    2 * Math.abs(got * greatest - 65536L * v) < greatest ? 1 : 0, 1);
            }
        }
    }

    private static void everyPlaceInAWord(int format) {
        int inAWord = 32 / BITS[format];
        for (int n = 0; n < inAWord; n++) {
            TextureUnits x = of(format);
            int all = BITS[format] == 32 ? -1 : (1 << BITS[format]) - 1;
            x.poke(0, all << n * BITS[format]);
            for (int m = 0; m < 8; m++) {
                Check.due("format " + format + ", texel " + m + " by " + n, x.texel(0, 0, m, 0, format == 5 ? 3 : 0),
                    m == n ? 65536 : 0);
            }
        }
    }
}
