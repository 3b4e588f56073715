/** Terms: "at level l 2^(a - l) and 2^(b - l) (2^0 at least); LEVELS (1 .. 11)"; each level's first and last texel. */
public final class LevelSizeEdgeTest {
    public static void main(String[] args) {
        everyLevelOfEverySizeEnds();
        noLevelBehindTheLast();
        levelsOfOneTexelStillFollow();
        levelsShareAWord();
        aSmallerPictureForgetsTheGreater();
        Check.end();
    }

    private static int size(int logarithm, int level) {
        int size = (int) Math.pow(2, logarithm);
        for (int k = 0; k < level; k++) {
            size = size == 1 ? 1 : size / 2;
        }
        return size;
    }

    private static void everyLevelOfEverySizeEnds() {
        for (int a = 0; a <= 10; a++) {
            for (int b = 0; b <= 10; b++) {
                TextureUnits x = new TextureUnits();
                x.picture(2, 0, a, b, 11, 4);
                for (int k = 0; k < 11; k++) {
                    int level = k;
                    int w = size(a, k);
                    int h = size(b, k);
                    String what = "2^" + a + " x 2^" + b + ", level " + k;
                    Check.due(what, x.texel(2, k, w - 1, h - 1, 3), 65536);
                    Check.refused(what + " x " + w, Check.NO_PLACE, () -> x.texel(2, level, w, h - 1, 3));
                    Check.refused(what + " y " + h, Check.NO_PLACE, () -> x.texel(2, level, w - 1, h, 3));
                    Check.refused(what + " x -1", Check.NO_PLACE, () -> x.texel(2, level, -1, 0, 3));
                    Check.refused(what + " y -1", Check.NO_PLACE, () -> x.texel(2, level, 0, -1, 3));
                }
            }
        }
    }

    private static void noLevelBehindTheLast() {
        for (int levels = 1; levels <= 11; levels++) {
            TextureUnits x = new TextureUnits();
            int none = levels;
            x.picture(0, 0, 10, 3, levels, 1);
            Check.due("the last of " + levels, x.texel(0, levels - 1, 0, 0, 3), 65536);
            Check.refused("level " + none + " of " + levels, Check.NO_PLACE, () -> x.texel(0, none, 0, 0, 3));
            Check.refused("level -1 of " + levels, Check.NO_PLACE, () -> x.texel(0, -1, 0, 0, 3));
        }
    }

    /** Red tells a texel's number: where each level begins. */
    private static void levelsOfOneTexelStillFollow() {
        begins(0, 0, new int[] {0, 1, 2, 3, 4, 5, 6, 7, 8, 9, 10});
        begins(2, 1, new int[] {0, 8, 10, 11, 12, 13, 14, 15, 16, 17, 18});
        begins(0, 2, new int[] {0, 4, 6, 7, 8, 9, 10, 11, 12, 13, 14});
        begins(3, 0, new int[] {0, 8, 12, 14, 15, 16, 17, 18, 19, 20, 21});
        begins(1, 4, new int[] {0, 32, 40, 44, 46, 47, 48, 49, 50, 51, 52});
        begins(3, 3, new int[] {0, 64, 80, 84, 85, 86, 87, 88, 89, 90, 91});
    }

    private static void begins(int a, int b, int[] starts) {
        TextureUnits x = new TextureUnits();
        for (int k = 0; k < 100; k++) {
            x.poke(10 + k, k);
        }
        x.picture(0, 10, a, b, 11, 0);
        for (int level = 0; level < 11; level++) {
            String what = "2^" + a + " x 2^" + b + ", level " + level;
            int last = starts[level] + size(a, level) * size(b, level) - 1;
            Check.due(what + " begins", x.texel(0, level, 0, 0, 0), 257 * starts[level]);
            Check.due(what + " ends", x.texel(0, level, size(a, level) - 1, size(b, level) - 1, 0), 257 * last);
            Check.due(what + " read", x.read(0, 0, 0, level << 16), 257 * starts[level]);
        }
    }

    /** Levels begin at a bit, not at a word: eleven of four bits lie in two words. */
    private static void levelsShareAWord() {
        TextureUnits x = new TextureUnits();
        x.poke(3, 0x76543210);
        x.poke(4, 0x00000A98);
        x.picture(0, 3, 0, 0, 11, 7);
        for (int level = 0; level < 11; level++) {
            Check.due("level " + level + " of four bits", x.texel(0, level, 0, 0, 1),
                Math.round(level * 65536.0 / 15));
        }
    }

    private static void aSmallerPictureForgetsTheGreater() {
        TextureUnits x = new TextureUnits();
        x.picture(0, 0, 10, 10, 11, 4);
        x.picture(0, 0, 1, 0, 2, 4);
        Check.due("texels", x.texels(0), 3);
        Check.refused("level 2", Check.NO_PLACE, () -> x.texel(0, 2, 0, 0, 0));
        Check.refused("x 2", Check.NO_PLACE, () -> x.texel(0, 0, 2, 0, 0));
        Check.refused("y 1", Check.NO_PLACE, () -> x.texel(0, 0, 0, 1, 0));
        x.picture(0, 0, 10, 10, 11, 4);
        Check.due("texels again", x.texels(0), 1398101);
    }
}
