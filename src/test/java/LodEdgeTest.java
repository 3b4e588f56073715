/** Terms: "l cut to 0 .. 65536 times (levels - 1)", and the four filters, with "the next one (if there is one)". */
public final class LodEdgeTest {
    private static final int LEAST = Integer.MIN_VALUE;
    private static final int GREATEST = Integer.MAX_VALUE;

    public static void main(String[] args) {
        for (int filter = 0; filter < 4; filter++) {
            for (int levels = 1; levels <= 11; levels++) {
                belowTheFirstLevel(filter, levels);
                aboveTheLastLevel(filter, levels);
                everyLevelWhole(filter, levels);
            }
        }
        nearAndLinearGoDown();
        levelsAndBothMixByWhatIsLeft();
        everyLevelHasItsOwnSize();
        oneTexelOrFour();
        aPictureOfFewerLevels();
        Check.end();
    }

    /** Levels of one texel each: red is 10 at level 0, 20 at level 1, and 255 behind the last. */
    private static TextureUnits stack(int filter, int levels) {
        TextureUnits x = new TextureUnits();
        x.picture(1, 0, 0, 0, levels, 0);
        x.manner(1, 0, 0, filter);
        for (int k = 0; k < levels; k++) {
            x.poke(k, 10 * (k + 1));
        }
        x.poke(levels, 255);
        x.poke(levels + 1, 255);
        return x;
    }

    private static int red(int level) {
        return 257 * 10 * (level + 1);
    }

    private static void belowTheFirstLevel(int filter, int levels) {
        TextureUnits x = stack(filter, levels);
        for (int l : new int[] {LEAST, LEAST + 1, LEAST + 32768, -65537, -65536, -32768, -1, 0}) {
            Check.due("filter " + filter + ", " + levels + " levels, l " + l, x.read(1, 0, 0, l), red(0));
        }
    }

    private static void aboveTheLastLevel(int filter, int levels) {
        TextureUnits x = stack(filter, levels);
        int end = 65536 * (levels - 1);
        for (int l : new int[] {end, end + 1, end + 32768, end + 65535, end + 65536, 720896, GREATEST - 65535, GREATEST}) {
            Check.due("filter " + filter + ", " + levels + " levels, l " + l, x.read(1, 0, 0, l), red(levels - 1));
        }
    }

    private static void everyLevelWhole(int filter, int levels) {
        TextureUnits x = stack(filter, levels);
        for (int k = 0; k < levels; k++) {
            Check.due("filter " + filter + ", " + levels + " levels, level " + k, x.read(1, 0, 0, 65536 * k), red(k));
        }
    }

    private static void nearAndLinearGoDown() {
        for (int filter = 0; filter < 2; filter++) {
            TextureUnits x = stack(filter, 11);
            for (int k = 0; k < 10; k++) {
                Check.due("filter " + filter + ", behind level " + k, x.read(1, 0, 0, 65536 * k + 1), red(k));
                Check.due("filter " + filter + ", before level " + (k + 1), x.read(1, 0, 0, 65536 * k + 65535), red(k));
            }
        }
    }

    private static void levelsAndBothMixByWhatIsLeft() {
        for (int filter = 2; filter < 4; filter++) {
            TextureUnits x = stack(filter, 11);
            for (int k = 0; k < 10; k++) {
                for (int left : new int[] {0, 1, 25, 26, 16384, 32768, 65535}) {
                    Check.due("filter " + filter + ", level " + k + " and " + left, x.read(1, 0, 0, 65536 * k + left),
                        red(k) + 2570L * left / 65536);
                }
            }
        }
    }

    /** Sixteen texels, four, one: s and t go by the size of the level that is read. */
    private static void everyLevelHasItsOwnSize() {
        TextureUnits x = new TextureUnits();
        for (int k = 0; k < 21; k++) {
            x.poke(k, k + 1);
        }
        x.picture(0, 0, 2, 2, 3, 0);
        int s = 49152;
        int t = 32768;
        x.manner(0, 0, 0, 0);
        Check.due("level 0", x.read(0, s, t, 0), 257 * 12);
        Check.due("level 1", x.read(0, s, t, 65536), 257 * 20);
        Check.due("level 2", x.read(0, s, t, 131072), 257 * 21);
        x.manner(0, 0, 0, 2);
        Check.due("levels 0 and 1", x.read(0, s, t, 32768), 257 * 16);
        Check.due("levels 1 and 2", x.read(0, s, t, 98304), 257 * 20 + 128);
    }

    /** At a corner of two by two repeated texels: one of them, or all four by halves. */
    private static void oneTexelOrFour() {
        TextureUnits x = new TextureUnits();
        int[] red = {10, 30, 50, 110, 100};
        for (int k = 0; k < 5; k++) {
            x.poke(k, red[k]);
        }
        x.picture(0, 0, 1, 1, 2, 0);
        int[] level0 = {2570, 12850, 2570, 12850};
        int[] between = {2570, 12850, 2570 + (25700 - 2570) / 4, 12850 + (25700 - 12850) / 4};
        for (int filter = 0; filter < 4; filter++) {
            x.manner(0, 0, 0, filter);
            Check.due("filter " + filter + " at level 0", x.read(0, 0, 0, 0), level0[filter]);
            Check.due("filter " + filter + " between", x.read(0, 0, 0, 16384), between[filter]);
            Check.due("filter " + filter + " at level 1", x.read(0, 0, 0, 65536), 25700);
        }
    }

    private static void aPictureOfFewerLevels() {
        for (int filter = 0; filter < 4; filter++) {
            TextureUnits x = stack(filter, 11);
            x.picture(1, 0, 0, 0, 2, 0);
            Check.due("filter " + filter + ", two levels", x.read(1, 0, 0, 655360), red(1));
            x.picture(1, 0, 0, 0, 1, 0);
            Check.due("filter " + filter + ", one level", x.read(1, 0, 0, 655360), red(0));
            Check.due("filter " + filter + ", one level and a half", x.read(1, 0, 0, 32768), red(0));
        }
    }
}
