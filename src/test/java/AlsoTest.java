/** Promise 9. */
public final class AlsoTest {
    public static void main(String[] args) {
        nothingWasRead();
        theLatestReadingStands();
        channelsThatThereAreNot();
        Check.end();
    }

    private static void nothingWasRead() {
        TextureUnits x = new TextureUnits();
        x.poke(0, -1);
        x.border(0, 1, 2, 3, 4);
        for (int c = 0; c < 4; c++) {
            Check.due("nothing read, channel " + c, x.also(c), 0);
        }
    }

    private static void theLatestReadingStands() {
        TextureUnits x = new TextureUnits();
        x.poke(0, 0x04030201);
        x.poke(1, 0x08070605);
        x.picture(1, 1, 0, 0, 1, 0);
        x.read(0, 0, 0, 0);
        Check.reading(x, Check.at(1, 0, 0, 0), 1285, 1542, 1799, 2056);
        Check.reading(x, Check.at(0, 0, 0, 0), 257, 514, 771, 1028);
        x.poke(0, -1);
        x.picture(0, 1, 2, 2, 2, 4);
        x.manner(0, 1, 1, 1);
        x.border(0, 9, 9, 9, 9);
        x.texel(1, 0, 0, 0, 0);
        x.texels(0);
        Check.refused("a reading of no unit", Check.NO_UNIT, () -> x.read(4, 0, 0, 0));
        Check.refused("a reading of no unit", Check.NO_UNIT, () -> x.read(-1, 0, 0, 0));
        for (int c = 3; c >= 0; c--) {
            Check.due("the reading still, channel " + c, x.also(c), 257 * (c + 1));
        }
    }

    private static void channelsThatThereAreNot() {
        TextureUnits x = new TextureUnits();
        for (int c : new int[] {-1, 4, 5, Integer.MIN_VALUE, Integer.MAX_VALUE}) {
            Check.refused("also " + c, Check.NO_PLACE, () -> x.also(c));
        }
    }
}
