/** Promise 8. */
public final class ReadTest {
    private static final int LEAST = Integer.MIN_VALUE;
    private static final int GREATEST = Integer.MAX_VALUE;

    public static void main(String[] args) {
        nearTakesOneTexel();
        linearMixesFour();
        rowsAreMixedBeforeColumns();
        mixingGoesDown();
        bordersFurtherApartThanAnInt();
        lodIsCut();
        nearAndLinearKeepOneLevel();
        levelsAreMixed();
        bothMixesFourOfTwoLevels();
        productsAreExact();
        productsBeyondAnIntAreCut();
        unitsThatThereAreNot();
        Check.end();
    }

    /** A picture of format 0 whose n-th texel has red n + 1 and no more. */
    private static TextureUnits counted(int a, int b, int levels) {
        TextureUnits x = new TextureUnits();
        x.picture(0, 0, a, b, levels, 0);
        for (int k = 0; k < 100; k++) {
            x.poke(k, k + 1);
        }
        return x;
    }

    private static void nearTakesOneTexel() {
        TextureUnits x = counted(2, 2, 1);
        Check.due("the first", x.read(0, 0, 0, 0), 257);
        Check.due("its end", x.read(0, 16383, 16383, 0), 257);
        Check.due("the next across", x.read(0, 16384, 16383, 0), 2 * 257);
        Check.due("the next down", x.read(0, 16383, 16384, 0), 5 * 257);
        Check.due("the last", x.read(0, 65535, 65535, 0), 16 * 257);
        Check.due("below 0, down", x.read(0, -1, -16385, 0), 12 * 257);
    }

    private static void linearMixesFour() {
        TextureUnits x = counted(1, 1, 1);
        x.manner(0, 1, 1, 1);
        Check.due("a texel's middle", x.read(0, 16384, 16384, 0), 257);
        Check.due("between two across", x.read(0, 32768, 16384, 0), 385);
        Check.due("between two down", x.read(0, 16384, 32768, 0), 514);
        Check.due("between four", x.read(0, 32768, 32768, 0), 385 + (899 - 385) / 2);
        Check.due("a quarter", x.read(0, 24576, 16384, 0), 257 + 257 / 4);
        x.manner(0, 0, 0, 1);
        Check.due("round the corner", x.read(0, 0, 0, 0), 642);
        x.manner(0, 2, 2, 1);
        Check.due("the corner mirrored", x.read(0, 0, 0, 0), 257);
        x.manner(0, 3, 3, 1);
        x.border(0, 1000, 0, 0, 0);
        Check.due("a corner and border", x.read(0, 0, 0, 0), 1000 + Math.floorDiv(628 - 1000, 2));
    }

    /** The order tells by one here: texels 0 and 8738 above one another, border 1 beside both. */
    private static void rowsAreMixedBeforeColumns() {
        TextureUnits x = new TextureUnits();
        x.manner(0, 3, 0, 1);
        x.picture(0, 0, 0, 1, 1, 7);
        x.poke(0, 0x20);
        x.border(0, 1, 0, 0, 0);
        // Rows first: 0 and 4369, so 2184; columns first would be 4369 and 1, so 2185.
        Check.due("rows first", x.read(0, 65536, 32768, 0), 2184);
    }

    private static void mixingGoesDown() {
        TextureUnits x = new TextureUnits();
        x.manner(0, 3, 3, 1);
        x.border(0, -1, 1, -65536, 65536);
        // Of row 0: border left, texel 0 right, f = 65535; the row above is border alone.
        Check.reading(x, Check.at(0, 32767, 32768, 0), -1, 0, -1, 1);
        // Texel 0 left, border right, f = 1.
        Check.reading(x, Check.at(0, 32769, 32768, 0), -1, 0, -1, 1);
        // The same downward.
        Check.reading(x, Check.at(0, 32768, 32767, 0), -1, 0, -1, 1);
        Check.reading(x, Check.at(0, 32768, 32769, 0), -1, 0, -1, 1);
    }

    private static void bordersFurtherApartThanAnInt() {
        TextureUnits x = new TextureUnits();
        x.poke(0, -1);
        x.manner(0, 3, 3, 1);
        x.border(0, LEAST, GREATEST, -GREATEST, LEAST + 1);
        Check.reading(x, Check.at(0, 65536, 32768, 0),
            half(65536, LEAST), half(65536, GREATEST), half(65536, -GREATEST), half(65536, LEAST + 1));
        Check.reading(x, Check.at(0, 0, 32768, 0),
            half(LEAST, 65536), half(GREATEST, 65536), half(-GREATEST, 65536), half(LEAST + 1, 65536));
        Check.reading(x, Check.at(0, 32769, 32768, 0),
            65536 + (int) Math.floorDiv((long) LEAST - 65536, 65536L), 65536 + (GREATEST - 65536) / 65536,
            65536 + (int) Math.floorDiv((long) -GREATEST - 65536, 65536L),
            65536 + (int) Math.floorDiv((long) LEAST + 1 - 65536, 65536L));
    }

    private static int half(long p, long q) {
        return (int) (p + Math.floorDiv(q - p, 2L));
    }

    private static void lodIsCut() {
        for (int filter = 0; filter < 4; filter++) {
            TextureUnits x = counted(2, 2, 3);
            x.manner(0, 0, 0, filter);
            int first = x.read(0, 40000, 9000, 0);
            Check.due("below 0", x.read(0, 40000, 9000, -1), first);
            Check.due("the least", x.read(0, 40000, 9000, LEAST), first);
            Check.due("the last level", x.read(0, 0, 0, 131072), 21 * 257);
            Check.due("above it", x.read(0, 0, 0, 131073), 21 * 257);
            Check.due("the greatest", x.read(0, 0, 0, GREATEST), 21 * 257);
        }
        TextureUnits y = counted(0, 0, 11);
        y.manner(0, 0, 0, 2);
        Check.due("level 10", y.read(0, 0, 0, 655360), 11 * 257);
        Check.due("level 9 and a half", y.read(0, 0, 0, 9 * 65536 + 32768), 10 * 257 + 128);
        Check.due("above level 10", y.read(0, 0, 0, 655360 + 32768), 11 * 257);
    }

    private static void nearAndLinearKeepOneLevel() {
        TextureUnits x = counted(1, 1, 2);
        for (int filter = 0; filter < 2; filter++) {
            x.manner(0, 1, 1, filter);
            Check.due("filter " + filter + ", level 0", x.read(0, 16384, 16384, 65535), 257);
            Check.due("filter " + filter + ", level 1", x.read(0, 16384, 16384, 65536), 5 * 257);
        }
    }

    private static void levelsAreMixed() {
        TextureUnits x = counted(2, 1, 3);
        x.manner(0, 0, 0, 2);
        Check.due("level 0 whole", x.read(0, 50000, 40000, 0), 8 * 257);
        Check.due("nearly level 1", x.read(0, 50000, 40000, 65535), 8 * 257 + 2 * 257 - 1);
        Check.due("level 1 whole", x.read(0, 50000, 40000, 65536), 10 * 257);
        Check.due("a quarter of level 2", x.read(0, 50000, 40000, 65536 + 16384), 10 * 257 + 64);
        x.poke(7, 0x30201008);
        x.poke(9, 0x0A0B0C0D);
        Check.reading(x, Check.at(0, 50000, 40000, 32768),
            half(8 * 257, 13 * 257), half(16 * 257, 12 * 257), half(32 * 257, 11 * 257), half(48 * 257, 10 * 257));
    }

    private static void bothMixesFourOfTwoLevels() {
        TextureUnits x = counted(1, 1, 2);
        x.manner(0, 1, 1, 3);
        int upper = 385 + (899 - 385) / 2;
        Check.due("level 0 of four", x.read(0, 32768, 32768, 0), upper);
        Check.due("halfway", x.read(0, 32768, 32768, 32768), half(upper, 5 * 257));
        Check.due("level 1", x.read(0, 32768, 32768, 65536), 5 * 257);
        x.manner(0, 3, 3, 3);
        x.border(0, -1000, 0, 0, 0);
        int second = half(-1000, half(-1000, 1285));
        Check.due("border on both levels", x.read(0, 0, 0, 32768),
            half(half(-1000, half(-1000, 257)), second));
    }

    private static void productsAreExact() {
        for (int filter = 0; filter < 4; filter++) {
            TextureUnits x = new TextureUnits();
            x.picture(0, 0, 10, 0, 1, 4);
            x.manner(0, 0, 0, filter);
            x.poke(255, 0xFF000000);
            x.poke(0, 0x00000080);
            // 1024 * (2^31 - 1) / 65536 is 2^25 - 1/64: the last texel, or nearly half way on to the first.
            Check.due("the greatest s", x.read(0, GREATEST, 32768, 0),
                filter % 2 == 0 ? 65536 : 65536 + Math.floorDiv((32897 - 65536) * 31744, 65536));
            Check.due("the least s", x.read(0, LEAST, 32768, 0), filter % 2 == 0 ? 32897 : half(65536, 32897));
            x.picture(0, 0, 0, 10, 1, 4);
            Check.due("the greatest t", x.read(0, 32768, GREATEST, 0),
                filter % 2 == 0 ? 65536 : 65536 + Math.floorDiv((32897 - 65536) * 31744, 65536));
            Check.due("the least t", x.read(0, 32768, LEAST, 0), filter % 2 == 0 ? 32897 : half(65536, 32897));
            x.manner(0, 3, 3, filter);
            x.border(0, 5, 6, 7, 8);
            Check.reading(x, Check.at(0, LEAST, GREATEST, 0), 5, 6, 7, 8);
            Check.reading(x, Check.at(0, GREATEST, LEAST, 0), 5, 6, 7, 8);
        }
    }

    /** Products that wrapped round as ints would lie on the other side of the picture. */
    private static void productsBeyondAnIntAreCut() {
        for (int filter = 0; filter < 4; filter++) {
            TextureUnits x = new TextureUnits();
            x.manner(0, 1, 1, filter);
            x.poke(0, 0x00000080);
            x.poke(255, 0xFF000000);
            for (int far : new int[] {GREATEST, 1 << 30, 1 << 22, 3 << 20}) {
                x.picture(0, 0, 10, 0, 1, 4);
                Check.due("far right " + far, x.read(0, far, 0, 0), 65536);
                Check.due("far left " + far, x.read(0, -far, 0, 0), 32897);
                x.picture(0, 0, 0, 10, 1, 4);
                Check.due("far down " + far, x.read(0, 0, far, 0), 65536);
                Check.due("far up " + far, x.read(0, 0, -far, 0), 32897);
            }
        }
    }

    private static void unitsThatThereAreNot() {
        TextureUnits x = new TextureUnits();
        x.poke(0, 0x04030201);
        x.read(0, 0, 0, 0);
        for (int unit : new int[] {-1, 4, LEAST, GREATEST}) {
            Check.refused("read of unit " + unit, Check.NO_UNIT, () -> x.read(unit, 0, 0, 0));
        }
        for (int c = 0; c < 4; c++) {
            Check.due("the reading before, channel " + c, x.also(c), 257 * (c + 1));
        }
    }
}
