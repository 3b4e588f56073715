/** Terms: "p + (q - p) * f / 65536, down, with q - p as it is (no int), for each channel", f being 0 .. 65535. */
public final class MixEdgeTest {
    private static final int LEAST = Integer.MIN_VALUE;
    private static final int GREATEST = Integer.MAX_VALUE;
    private static final int[] PARTS = {0, 1, 2, 32767, 32768, 32769, 65534, 65535};
    private static final int[] COLOURS = {
        LEAST, LEAST + 1, LEAST + 65535, LEAST + 65536, -65537, -65536, -2, -1, 0, 1, 65535, 65536, 65537,
        GREATEST - 65536, GREATEST - 1, GREATEST};

    public static void main(String[] args) {
        for (int colour : COLOURS) {
            acrossFromBorder(colour);
            acrossToBorder(colour);
            downFromBorder(colour);
            downToBorder(colour);
        }
        eachChannelByItself();
        rowsThenColumnsEachDown();
        levelsAfterFourEachDown();
        levelsFarApart();
        Check.end();
    }

    private static int mixed(long p, long q, long f) {
        return Math.toIntExact(p + Math.floorDiv((q - p) * f, 65536L));
    }

    /** One texel: r 0, g 65536, b 0, a 65536, with the border round it. */
    private static TextureUnits framed(int colour, int across, int down) {
        TextureUnits x = new TextureUnits();
        x.poke(0, 0xFF00FF00);
        x.manner(0, across, down, 1);
        x.border(0, colour, colour, colour, colour);
        return x;
    }

    /** U is s less 32768: below 0 the left place is -1, and what is left of it is s + 32768. */
    private static void acrossFromBorder(int colour) {
        TextureUnits x = framed(colour, 3, 0);
        for (int f : PARTS) {
            int none = mixed(colour, 0, f);
            int full = mixed(colour, 65536, f);
            Check.reading(x, Check.at(0, f - 32768, 0, 0), none, full, none, full);
        }
    }

    private static void acrossToBorder(int colour) {
        TextureUnits x = framed(colour, 3, 0);
        for (int f : PARTS) {
            int none = mixed(0, colour, f);
            int full = mixed(65536, colour, f);
            Check.reading(x, Check.at(0, f + 32768, 0, 0), none, full, none, full);
        }
    }

    private static void downFromBorder(int colour) {
        TextureUnits x = framed(colour, 0, 3);
        for (int f : PARTS) {
            int none = mixed(colour, 0, f);
            int full = mixed(colour, 65536, f);
            Check.reading(x, Check.at(0, 0, f - 32768, 0), none, full, none, full);
        }
    }

    private static void downToBorder(int colour) {
        TextureUnits x = framed(colour, 0, 3);
        for (int f : PARTS) {
            int none = mixed(0, colour, f);
            int full = mixed(65536, colour, f);
            Check.reading(x, Check.at(0, 0, f + 32768, 0), none, full, none, full);
        }
    }

    private static void eachChannelByItself() {
        TextureUnits x = new TextureUnits();
        x.manner(0, 3, 3, 1);
        x.border(0, LEAST, GREATEST, -1, 1);
        Check.reading(x, Check.at(0, 32769, 32768, 0), -32768, 32767, -1, 0);
        Check.reading(x, Check.at(0, 32767, 32768, 0), -32768, 32767, -1, 0);
        Check.reading(x, Check.at(0, 32768, 32768, 0), 0, 0, 0, 0);
    }

    /** Reds 0, 257 / 1028, 514 at a quarter each way: 64 and 899, so 272; by columns, or all at once, it is 273. */
    private static void rowsThenColumnsEachDown() {
        TextureUnits x = new TextureUnits();
        int[] red = {0, 1, 4, 2};
        for (int k = 0; k < 4; k++) {
            x.poke(k, red[k]);
        }
        x.picture(0, 0, 1, 1, 1, 0);
        x.manner(0, 1, 1, 1);
        Check.due("rows, then columns", x.read(0, 24576, 24576, 0), 272);
    }

    /** Of four at each level first (both down), then between the levels (down again). */
    private static void levelsAfterFourEachDown() {
        TextureUnits x = new TextureUnits();
        x.picture(0, 0, 1, 0, 2, 0);
        x.poke(0, 0);
        x.poke(1, 1);
        x.poke(2, 4);
        x.manner(0, 1, 1, 3);
        // Level 0: half of 257 is 128; level 1: 1028; a third of the way (21845): 128 + 900 * 21845 / 65536 = 427.
        Check.due("a third of the way", x.read(0, 32768, 0, 21845), 427);
        Check.due("hardly on the way", x.read(0, 32768, 0, 1), 128);
        Check.due("nearly there", x.read(0, 32768, 0, 65535), 1027);
    }

    /** Left of the picture, where the greater level shows border alone and the lesser one a mix with it. */
    private static void levelsFarApart() {
        for (int colour : new int[] {LEAST, LEAST + 1, GREATEST - 1, GREATEST}) {
            TextureUnits x = new TextureUnits();
            x.poke(0, -1);
            x.picture(0, 0, 1, 0, 2, 4);
            x.border(0, colour, colour, colour, colour);
            x.manner(0, 3, 0, 3);
            // Level 0 at -1/4: place -1 whole, so border; level 1: three quarters of border.
            int second = mixed(colour, 65536, 16384);
            for (int f : PARTS) {
                Check.due("border " + colour + " by " + f, x.read(0, -16384, 32768, f), mixed(colour, second, f));
            }
        }
    }
}
