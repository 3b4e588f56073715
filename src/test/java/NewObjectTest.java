/** Promise 1. */
public final class NewObjectTest {
    public static void main(String[] args) {
        for (int unit = 0; unit < 4; unit++) {
            memoryIsNought(unit);
            oneTexelOfFormatNoughtAtWordNought(unit);
            wrapsAndFilterAreNought(unit);
            filterKeepsToOneLevel(unit);
            borderIsNought(unit);
        }
        objectsShareNothing();
        Check.end();
    }

    private static void memoryIsNought(int unit) {
        TextureUnits x = new TextureUnits();
        for (int k = 0; k < 2048; k += 89) {
            TextureUnits y = new TextureUnits();
            y.picture(unit, k, 0, 0, 1, 0);
            Check.colour(y, "word " + k + " at first", unit, 0, 0, 0, 0);
        }
        Check.reading(x, Check.at(unit, 0, 0, 0), 0, 0, 0, 0);
    }

    private static void oneTexelOfFormatNoughtAtWordNought(int unit) {
        TextureUnits x = new TextureUnits();
        x.poke(0, 0x04030201);
        Check.due("texels", x.texels(unit), 1);
        Check.colour(x, "a new unit", unit, 257, 514, 771, 1028);
        Check.refused("level 1", Check.NO_PLACE, () -> x.texel(unit, 1, 0, 0, 0));
        Check.refused("x 1", Check.NO_PLACE, () -> x.texel(unit, 0, 1, 0, 0));
        Check.refused("y 1", Check.NO_PLACE, () -> x.texel(unit, 0, 0, 1, 0));
    }

    private static void wrapsAndFilterAreNought(int unit) {
        TextureUnits x = new TextureUnits();
        fourTexels(x, unit);
        Check.due("repeated across", x.read(unit, 65536, 0, 0), 257);
        Check.due("repeated across below 0", x.read(unit, -1, 0, 0), 514);
        Check.due("repeated down", x.read(unit, 0, 65536, 0), 257);
        Check.due("repeated down below 0", x.read(unit, 0, -1, 0), 771);
        Check.due("near, not of four", x.read(unit, 10000, 10000, 0), 257);
    }

    private static void filterKeepsToOneLevel(int unit) {
        TextureUnits x = new TextureUnits();
        fourTexels(x, unit);
        x.picture(unit, 0, 1, 1, 2, 0);
        x.poke(4, 99);
        Check.due("not between levels", x.read(unit, 0, 0, 65535), 257);
    }

    private static void borderIsNought(int unit) {
        TextureUnits x = new TextureUnits();
        x.poke(0, -1);
        x.manner(unit, 3, 3, 0);
        Check.reading(x, Check.at(unit, 65536, 0, 0), 0, 0, 0, 0);
    }

    private static void objectsShareNothing() {
        TextureUnits x = new TextureUnits();
        x.poke(0, -1);
        x.picture(0, 0, 3, 3, 2, 7);
        x.read(0, 0, 0, 0);
        TextureUnits y = new TextureUnits();
        Check.due("another's memory", y.texel(0, 0, 0, 0, 0), 0);
        Check.due("another's picture", y.texels(0), 1);
        Check.due("another's reading", y.also(0), 0);
    }

    private static void fourTexels(TextureUnits x, int unit) {
        x.picture(unit, 0, 1, 1, 1, 0);
        for (int k = 0; k < 4; k++) {
            x.poke(k, k + 1);
        }
    }
}
