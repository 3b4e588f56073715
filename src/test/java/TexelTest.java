/** Promise 6. */
public final class TexelTest {
    public static void main(String[] args) {
        channelsOfEachFormat();
        everyValueToTheNearest();
        texelsLieOneBehindTheOther();
        eachFormatHasItsStride();
        levelsLieOneBehindTheOther();
        wordsThatThereAreNot();
        wrongArgumentsAreRefused();
        theUnitComesFirst();
        texelLeavesTheReadingAlone();
        Check.end();
    }

    private static void channelsOfEachFormat() {
        TextureUnits x = new TextureUnits();
        x.poke(0, 0x80402010);
        int[][] due = {
            {nearest(0x10, 255), nearest(0x20, 255), nearest(0x40, 255), nearest(0x80, 255)},
            {nearest(16, 31), nearest(0, 63), nearest(4, 31), 65536},
            {0, nearest(1, 15), 0, nearest(2, 15)},
            {nearest(16, 31), 0, nearest(8, 31), 0},
            {nearest(16, 255), nearest(16, 255), nearest(16, 255), 65536},
            {0, 0, 0, nearest(16, 255)},
            {nearest(16, 255), nearest(16, 255), nearest(16, 255), nearest(32, 255)},
            {0, 0, 0, 65536}};
        for (int format = 0; format < 8; format++) {
            x.picture(0, 0, 0, 0, 1, format);
            Check.colour(x, "format " + format, 0, due[format]);
        }
        x.poke(0, 0xABCDEF96);
        int[][] more = {
            {nearest(0x96, 255), nearest(0xEF, 255), nearest(0xCD, 255), nearest(0xAB, 255)},
            {nearest(22, 31), nearest(60, 63), nearest(29, 31), 65536},
            {nearest(6, 15), nearest(9, 15), nearest(15, 15), nearest(14, 15)},
            {nearest(22, 31), nearest(28, 31), nearest(27, 31), 65536},
            {nearest(0x96, 255), nearest(0x96, 255), nearest(0x96, 255), 65536},
            {0, 0, 0, nearest(0x96, 255)},
            {nearest(0x96, 255), nearest(0x96, 255), nearest(0x96, 255), nearest(0xEF, 255)},
            {nearest(6, 15), nearest(6, 15), nearest(6, 15), 65536}};
        for (int format = 0; format < 8; format++) {
            x.picture(0, 0, 0, 0, 1, format);
            Check.colour(x, "format " + format + " again", 0, more[format]);
        }
    }

    private static void everyValueToTheNearest() {
        TextureUnits x = new TextureUnits();
        for (int v = 0; v < 256; v++) {
            x.poke(0, v);
            Check.due("8 bits, " + v, x.texel(0, 0, 0, 0, 0), nearest(v, 255));
        }
        TextureUnits y = new TextureUnits();
        y.picture(0, 0, 0, 0, 1, 1);
        for (int v = 0; v < 64; v++) {
            y.poke(0, v << 5 | v & 31);
            Check.due("6 bits, " + v, y.texel(0, 0, 0, 0, 1), nearest(v, 63));
            Check.due("5 bits, " + v, y.texel(0, 0, 0, 0, 0), nearest(v & 31, 31));
        }
        TextureUnits z = new TextureUnits();
        z.picture(0, 0, 0, 0, 1, 7);
        for (int v = 0; v < 16; v++) {
            z.poke(0, v);
            Check.due("4 bits, " + v, z.texel(0, 0, 0, 0, 0), nearest(v, 15));
        }
    }

    private static void texelsLieOneBehindTheOther() {
        TextureUnits x = new TextureUnits();
        x.poke(9, 0x76543210);
        x.poke(10, 0xFEDCBA98);
        x.picture(3, 9, 2, 2, 1, 7);
        for (int y = 0; y < 4; y++) {
            for (int c = 0; c < 4; c++) {
                Check.due("4 bits at " + c + ", " + y, x.texel(3, 0, c, y, 2), nearest(4 * y + c, 15));
            }
        }
        x.picture(3, 9, 0, 3, 1, 5);
        int[] bytes = {0x10, 0x32, 0x54, 0x76, 0x98, 0xBA, 0xDC, 0xFE};
        for (int y = 0; y < 8; y++) {
            Check.due("8 bits at row " + y, x.texel(3, 0, 0, y, 3), nearest(bytes[y], 255));
        }
        x.picture(3, 9, 2, 0, 1, 2);
        int[] lowest = {0, 4, 8, 12};
        for (int c = 0; c < 4; c++) {
            Check.due("16 bits at " + c, x.texel(3, 0, c, 0, 0), nearest(lowest[c], 15));
            Check.due("16 bits at " + c + " a", x.texel(3, 0, c, 0, 3), nearest(lowest[c] + 3, 15));
        }
    }

    private static void eachFormatHasItsStride() {
        int[] bits = {32, 16, 16, 16, 8, 8, 16, 4};
        for (int format = 0; format < 8; format++) {
            int channel = format == 5 ? 3 : 0;
            for (int n = 0; n < 16; n++) {
                TextureUnits x = new TextureUnits();
                x.picture(0, 100, 2, 2, 1, format);
                x.poke(100 + n * bits[format] / 32, 15 << n * bits[format] % 32);
                for (int m = 0; m < 16; m++) {
                    boolean lit = x.texel(0, 0, m % 4, m / 4, channel) != 0;
                    Check.due("format " + format + ", texel " + m + " by " + n, lit ? 1 : 0, m == n ? 1 : 0);
                }
            }
        }
    }

    private static void levelsLieOneBehindTheOther() {
        TextureUnits x = new TextureUnits();
        for (int k = 0; k < 20; k++) {
            x.poke(k, k + 1);
        }
        x.picture(0, 0, 2, 1, 5, 0);
        Check.due("level 0, the last", x.texel(0, 0, 3, 1, 0), 257 * 8);
        Check.due("level 1, the first", x.texel(0, 1, 0, 0, 0), 257 * 9);
        Check.due("level 1, the last", x.texel(0, 1, 1, 0, 0), 257 * 10);
        x.picture(1, 0, 1, 2, 2, 0);
        Check.due("level 1, its second row", x.texel(1, 1, 0, 1, 0), 257 * 10);
        x.picture(1, 0, 2, 2, 2, 0);
        Check.due("level 1, its second row of two", x.texel(1, 1, 0, 1, 0), 257 * 19);
        Check.due("level 2", x.texel(0, 2, 0, 0, 0), 257 * 11);
        Check.due("level 3, one texel still", x.texel(0, 3, 0, 0, 0), 257 * 12);
        Check.due("level 4, one texel still", x.texel(0, 4, 0, 0, 0), 257 * 13);
        Check.refused("level 1, y 1", Check.NO_PLACE, () -> x.texel(0, 1, 0, 1, 0));
        Check.refused("level 1, x 2", Check.NO_PLACE, () -> x.texel(0, 1, 2, 0, 0));
        Check.refused("level 5", Check.NO_PLACE, () -> x.texel(0, 5, 0, 0, 0));
    }

    private static void wordsThatThereAreNot() {
        TextureUnits x = new TextureUnits();
        x.poke(0, -1);
        x.poke(1, -1);
        x.poke(2047, -1);
        x.picture(0, 2047, 1, 0, 1, 0);
        Check.due("word 2047", x.texel(0, 0, 0, 0, 0), 65536);
        Check.due("word 2048", x.texel(0, 0, 1, 0, 0), 0);
        Check.due("word 2048 a", x.texel(0, 0, 1, 0, 3), 0);
        x.picture(0, 2048, 0, 0, 1, 1);
        Check.colour(x, "no word, and a isn't told", 0, 0, 0, 0, 65536);
        x.picture(0, Integer.MAX_VALUE, 10, 10, 11, 0);
        for (int px : new int[] {0, 1, 2, 1023}) {
            Check.due("behind the greatest int " + px, x.texel(0, 0, px, 0, 0), 0);
            Check.due("far behind the greatest int " + px, x.texel(0, 0, px, 1023, 3), 0);
        }
        x.picture(0, 4096 * 16, 10, 10, 1, 0);
        Check.due("a word far off", x.texel(0, 0, 0, 0, 0), 0);
    }

    private static void wrongArgumentsAreRefused() {
        TextureUnits x = new TextureUnits();
        x.picture(1, 0, 3, 2, 2, 7);
        int[][] none = {
            {-1, 0, 0, 0}, {2, 0, 0, 0}, {Integer.MIN_VALUE, 0, 0, 0}, {Integer.MAX_VALUE, 0, 0, 0},
            {0, -1, 0, 0}, {0, 8, 0, 0}, {0, Integer.MIN_VALUE, 0, 0}, {0, Integer.MAX_VALUE, 0, 0},
            {0, 0, -1, 0}, {0, 0, 4, 0}, {0, 0, Integer.MIN_VALUE, 0}, {0, 0, Integer.MAX_VALUE, 0},
            {1, 4, 0, 0}, {1, 0, 2, 0},
            {0, 0, 0, -1}, {0, 0, 0, 4}, {0, 0, 0, Integer.MIN_VALUE}, {0, 0, 0, Integer.MAX_VALUE}};
        for (int[] n : none) {
            Check.refused("texel " + n[0] + ", " + n[1] + ", " + n[2] + ", " + n[3], Check.NO_PLACE,
                () -> x.texel(1, n[0], n[1], n[2], n[3]));
        }
        Check.due("the last there is, level 0", x.texel(1, 0, 7, 3, 3), 65536);
        Check.due("the last there is, level 1", x.texel(1, 1, 3, 1, 3), 65536);
    }

    private static void theUnitComesFirst() {
        TextureUnits x = new TextureUnits();
        for (int unit : new int[] {-1, 4, Integer.MIN_VALUE, Integer.MAX_VALUE}) {
            Check.refused("unit " + unit, Check.NO_UNIT, () -> x.texel(unit, 0, 0, 0, 0));
            Check.refused("unit " + unit + " and more", Check.NO_UNIT, () -> x.texel(unit, -1, -1, -1, -1));
        }
    }

    private static void texelLeavesTheReadingAlone() {
        TextureUnits x = new TextureUnits();
        x.poke(0, 0x04030201);
        x.texel(0, 0, 0, 0, 0);
        for (int c = 0; c < 4; c++) {
            Check.due("no reading yet, channel " + c, x.also(c), 0);
        }
    }

    private static int nearest(int value, int greatest) {
        return (int) Math.round(value * 65536.0 / greatest);
    }
}
