/** Promise 3. */
public final class PictureTest {
    public static void main(String[] args) {
        everyEdgeIsTaken();
        wrongArgumentsAreRefused();
        theUnitComesFirst();
        refusalsChangeNothing();
        unitsAreApart();
        pictureKeepsMannerAndBorder();
        Check.end();
    }

    private static void everyEdgeIsTaken() {
        TextureUnits x = new TextureUnits();
        for (int unit = 0; unit < 4; unit++) {
            x.picture(unit, 0, 0, 0, 1, 0);
            x.picture(unit, Integer.MAX_VALUE, 10, 10, 11, 7);
            Check.due("the last texel", x.texel(unit, 10, 0, 0, 3), 65536);
        }
        for (int format = 0; format < 8; format++) {
            x.picture(0, 3, 10, 0, 1, format);
            Check.due("the last one across", x.texel(0, 0, 1023, 0, 0), 0);
            x.picture(0, 3, 0, 10, 1, format);
            Check.due("the last one down", x.texel(0, 0, 0, 1023, 0), 0);
        }
    }

    private static void wrongArgumentsAreRefused() {
        TextureUnits x = new TextureUnits();
        for (int v : new int[] {-1, Integer.MIN_VALUE}) {
            Check.refused("from " + v, Check.BAD_ARGUMENT, () -> x.picture(0, v, 0, 0, 1, 0));
        }
        for (int v : new int[] {-1, 11, 32, Integer.MIN_VALUE, Integer.MAX_VALUE}) {
            Check.refused("a " + v, Check.BAD_ARGUMENT, () -> x.picture(0, 0, v, 0, 1, 0));
            Check.refused("b " + v, Check.BAD_ARGUMENT, () -> x.picture(0, 0, 0, v, 1, 0));
        }
        for (int v : new int[] {0, -1, 12, Integer.MIN_VALUE, Integer.MAX_VALUE}) {
            Check.refused("levels " + v, Check.BAD_ARGUMENT, () -> x.picture(0, 0, 0, 0, v, 0));
        }
        for (int v : new int[] {-1, 8, 16, Integer.MIN_VALUE, Integer.MAX_VALUE}) {
            Check.refused("format " + v, Check.BAD_ARGUMENT, () -> x.picture(0, 0, 0, 0, 1, v));
        }
    }

    private static void theUnitComesFirst() {
        TextureUnits x = new TextureUnits();
        for (int unit : new int[] {-1, 4, Integer.MIN_VALUE, Integer.MAX_VALUE}) {
            Check.refused("unit " + unit, Check.NO_UNIT, () -> x.picture(unit, 0, 0, 0, 1, 0));
            Check.refused("unit " + unit + " and more", Check.NO_UNIT, () -> x.picture(unit, -1, 11, -1, 0, 8));
        }
    }

    private static void refusalsChangeNothing() {
        TextureUnits x = new TextureUnits();
        x.poke(1, 0x00FF00FF);
        x.picture(2, 1, 1, 2, 2, 4);
        int[][] wrong = {{-1, 3, 3, 3, 0}, {0, 11, 3, 3, 0}, {0, 3, -1, 3, 0}, {0, 3, 3, 12, 0}, {0, 3, 3, 3, 8}};
        for (int[] w : wrong) {
            Check.refused("a wrong picture", Check.BAD_ARGUMENT,
                () -> x.picture(2, w[0], w[1], w[2], w[3], w[4]));
            Check.due("texels after it", x.texels(2), 10);
            Check.due("from after it", x.texel(2, 0, 0, 1, 1), 65536);
            Check.due("format after it", x.texel(2, 0, 1, 0, 3), 65536);
            Check.due("width after it", x.texel(2, 0, 1, 1, 0), 0);
        }
    }

    private static void unitsAreApart() {
        TextureUnits x = new TextureUnits();
        for (int k = 0; k < 4; k++) {
            x.poke(k, k + 1);
            x.picture(k, k, k, 0, 1, 0);
        }
        for (int k = 0; k < 4; k++) {
            Check.due("unit " + k + " texels", x.texels(k), 1 << k);
            Check.due("unit " + k + " from", x.texel(k, 0, 0, 0, 0), 257 * (k + 1));
        }
    }

    private static void pictureKeepsMannerAndBorder() {
        TextureUnits x = new TextureUnits();
        x.manner(1, 3, 0, 0);
        x.border(1, 1, 2, 3, 4);
        x.picture(1, 5, 2, 2, 1, 1);
        Check.reading(x, Check.at(1, -1, 0, 0), 1, 2, 3, 4);
    }
}
