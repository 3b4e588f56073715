/** Promise 4. */
public final class MannerTest {
    public static void main(String[] args) {
        eachWrapInEachDirection();
        eachFilter();
        wrongArgumentsAreRefused();
        theUnitComesFirst();
        refusalsChangeNothing();
        unitsAreApart();
        Check.end();
    }

    /** Two by two texels, each with a red of its own: 1, 2 / 3, 4, and 5 on the level below. */
    private static TextureUnits small() {
        TextureUnits x = new TextureUnits();
        for (int unit = 0; unit < 4; unit++) {
            x.picture(unit, 0, 1, 1, 2, 0);
            x.border(unit, 77, 0, 0, 0);
        }
        for (int k = 0; k < 5; k++) {
            x.poke(k, k + 1);
        }
        return x;
    }

    private static void eachWrapInEachDirection() {
        TextureUnits x = small();
        int[] places = {-65536, -32768, 0, 32768, 65536, 98304, 131072};
        int[][] due = {{0, 1, 0, 1, 0, 1, 0}, {0, 0, 0, 1, 1, 1, 1}, {1, 0, 0, 1, 1, 0, 0}, {-1, -1, 0, 1, -1, -1, -1}};
        for (int across = 0; across < 4; across++) {
            for (int down = 0; down < 4; down++) {
                x = small();
                x.manner(1, across, down, 0);
                for (int i = 0; i < places.length; i++) {
                    for (int j = 0; j < places.length; j++) {
                        int u = due[across][i];
                        int v = due[down][j];
                        int want = u < 0 || v < 0 ? 77 : 257 * (1 + u + 2 * v);
                        Check.due("wraps " + across + ", " + down + " at " + places[i] + ", " + places[j],
                            x.read(1, places[i], places[j], 0), want);
                    }
                }
            }
        }
    }

    private static void eachFilter() {
        TextureUnits x = small();
        int[] due = {257, 642, 771, 963};
        for (int filter = 0; filter < 4; filter++) {
            x.manner(0, 0, 0, filter);
            Check.due("filter " + filter, x.read(0, 0, 0, 32768), due[filter]);
        }
    }

    private static void wrongArgumentsAreRefused() {
        TextureUnits x = new TextureUnits();
        for (int v : new int[] {-1, 4, 256, Integer.MIN_VALUE, Integer.MAX_VALUE}) {
            Check.refused("across " + v, Check.BAD_ARGUMENT, () -> x.manner(0, v, 0, 0));
            Check.refused("down " + v, Check.BAD_ARGUMENT, () -> x.manner(0, 0, v, 0));
            Check.refused("filter " + v, Check.BAD_ARGUMENT, () -> x.manner(0, 0, 0, v));
        }
    }

    private static void theUnitComesFirst() {
        TextureUnits x = new TextureUnits();
        for (int unit : new int[] {-1, 4, Integer.MIN_VALUE, Integer.MAX_VALUE}) {
            Check.refused("unit " + unit, Check.NO_UNIT, () -> x.manner(unit, 0, 0, 0));
            Check.refused("unit " + unit + " and more", Check.NO_UNIT, () -> x.manner(unit, -1, 4, 9));
        }
    }

    private static void refusalsChangeNothing() {
        TextureUnits x = small();
        x.manner(3, 1, 2, 0);
        int[][] wrong = {{4, 3, 3}, {3, -1, 3}, {3, 3, 4}};
        for (int[] w : wrong) {
            Check.refused("a wrong manner", Check.BAD_ARGUMENT, () -> x.manner(3, w[0], w[1], w[2]));
            Check.due("across after it", x.read(3, 131072, 0, 0), 514);
            Check.due("down after it", x.read(3, 0, 65536, 0), 771);
            Check.due("filter after it", x.read(3, 10000, 10000, 65535), 257);
        }
    }

    private static void unitsAreApart() {
        TextureUnits x = small();
        int[] due = {514, 257, 257, 77};
        for (int unit = 0; unit < 4; unit++) {
            x.manner(unit, unit, 0, 0);
        }
        for (int unit = 0; unit < 4; unit++) {
            Check.due("unit " + unit, x.read(unit, -1, 0, 0), due[unit]);
        }
    }
}
