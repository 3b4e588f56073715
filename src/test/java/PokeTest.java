/** Promise 2. */
public final class PokeTest {
    public static void main(String[] args) {
        everyWordIsItsOwn();
        laterPokesStand();
        wordsThatThereAreNot();
        Check.end();
    }

    private static void everyWordIsItsOwn() {
        for (int first = 0; first < 2048; first += 200) {
            TextureUnits x = new TextureUnits();
            int last = Math.min(2048, first + 200);
            for (int k = first; k < last; k++) {
                x.poke(k, k % 256 | (k / 256) << 8);
            }
            x.picture(0, first, 8, 0, 1, 0);
            for (int k = first; k < last; k++) {
                Check.due("word " + k + " r", x.texel(0, 0, k - first, 0, 0), fixed(k % 256));
                if (k % 8 == 0) {
                    Check.due("word " + k + " g", x.texel(0, 0, k - first, 0, 1), fixed(k / 256));
                }
            }
        }
    }

    private static void laterPokesStand() {
        TextureUnits x = new TextureUnits();
        x.poke(7, -1);
        x.poke(7, Integer.MIN_VALUE);
        x.picture(0, 7, 0, 0, 1, 0);
        Check.colour(x, "the least int", 0, 0, 0, 0, fixed(128));
        x.poke(7, Integer.MAX_VALUE);
        Check.colour(x, "the greatest int", 0, 65536, 65536, 65536, fixed(127));
    }

    private static void wordsThatThereAreNot() {
        TextureUnits x = new TextureUnits();
        int[] none = {-1, 2048, 2049, Integer.MIN_VALUE, Integer.MAX_VALUE, -2048, 4096, 65536};
        for (int k : none) {
            Check.refused("poke " + k, Check.NO_PLACE, () -> x.poke(k, -1));
        }
        for (int k : new int[] {0, 1, 2046, 2047}) {
            x.picture(0, k, 0, 0, 1, 0);
            Check.colour(x, "word " + k + " after refusals", 0, 0, 0, 0, 0);
        }
    }

    private static int fixed(int eightBits) {
        return (int) Math.round(eightBits * 65536.0 / 255);
    }
}
