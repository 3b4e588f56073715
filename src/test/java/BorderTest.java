/** Promise 5. */
public final class BorderTest {
    public static void main(String[] args) {
        anyIntsAreTaken();
        unitsAreApart();
        unitsThatThereAreNot();
        Check.end();
    }

    private static void anyIntsAreTaken() {
        int[][] colours = {
            {0, 0, 0, 0}, {1, 2, 3, 4}, {65536, 65537, -1, -65536},
            {Integer.MIN_VALUE, Integer.MAX_VALUE, Integer.MIN_VALUE, Integer.MAX_VALUE}};
        TextureUnits x = new TextureUnits();
        x.poke(0, 0x7F7F7F7F);
        for (int[] c : colours) {
            for (int filter = 0; filter < 4; filter++) {
                x.manner(0, 3, 3, filter);
                x.border(0, c[0], c[1], c[2], c[3]);
                Check.reading(x, Check.at(0, 5 * 65536, 0, 0), c[0], c[1], c[2], c[3]);
                Check.reading(x, Check.at(0, 0, -5 * 65536, 0), c[0], c[1], c[2], c[3]);
            }
        }
    }

    private static void unitsAreApart() {
        TextureUnits x = new TextureUnits();
        for (int unit = 0; unit < 4; unit++) {
            x.manner(unit, 3, 3, 0);
            x.border(unit, unit, unit + 10, unit + 20, unit + 30);
        }
        for (int unit = 0; unit < 4; unit++) {
            Check.reading(x, Check.at(unit, -1, -1, 0), unit, unit + 10, unit + 20, unit + 30);
        }
    }

    private static void unitsThatThereAreNot() {
        TextureUnits x = new TextureUnits();
        for (int unit : new int[] {-1, 4, 5, Integer.MIN_VALUE, Integer.MAX_VALUE}) {
            Check.refused("border of unit " + unit, Check.NO_UNIT, () -> x.border(unit, 1, 1, 1, 1));
        }
        for (int unit = 0; unit < 4; unit++) {
            x.manner(unit, 3, 3, 0);
            Check.reading(x, Check.at(unit, -1, -1, 0), 0, 0, 0, 0);
        }
    }
}
