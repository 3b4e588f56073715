/** Terms: "MEMORY has 2048 words (ints, 0 at first), a word that there isn't is read as 0." */
public final class MemoryEdgeTest {
    private static final int GREATEST = Integer.MAX_VALUE;

    public static void main(String[] args) {
        everyWordIsNoughtAtFirst();
        theLastWordThereIs();
        theFirstWordThereIsNot();
        aPictureOverTheEnd();
        aLevelBehindTheEnd();
        fourTexelsOverTheEnd();
        wordsBehindTheGreatestInt();
        lowestAndHighestBitOfAWord();
        fiveHundredAndTwelveCalls();
        Check.end();
    }

    private static void everyWordIsNoughtAtFirst() {
        for (int first = 0; first < 2048; first += 128) {
            TextureUnits x = new TextureUnits();
            x.picture(0, first, 7, 0, 1, 0);
            for (int k = 0; k < 127; k++) {
                for (int c = 0; c < 4; c++) {
                    Check.due("word " + (first + k) + " at first", x.texel(0, 0, k, 0, c), 0);
                }
            }
            TextureUnits y = new TextureUnits();
            y.picture(0, first + 127, 0, 0, 1, 0);
            Check.colour(y, "word " + (first + 127) + " at first", 0, 0, 0, 0, 0);
        }
    }

    /** All of memory that a wrong place could show is lit: what is dark is a word that there isn't. */
    private static TextureUnits lit() {
        TextureUnits x = new TextureUnits();
        for (int k = 0; k < 8; k++) {
            x.poke(k, -1);
            x.poke(2047 - k, -1);
            x.poke(1020 + k, -1);
        }
        return x;
    }

    private static void theLastWordThereIs() {
        TextureUnits x = lit();
        x.poke(2047, 0x04030201);
        x.picture(0, 2047, 0, 0, 1, 0);
        Check.colour(x, "word 2047", 0, 257, 514, 771, 1028);
        Check.reading(x, Check.at(0, 0, 0, 0), 257, 514, 771, 1028);
    }

    private static void theFirstWordThereIsNot() {
        int[] untoldA = {0, 65536, 0, 0, 65536, 0, 0, 65536};
        for (int from : new int[] {2048, 2049, 4096, 65536, 1 << 30, GREATEST - 1, GREATEST}) {
            TextureUnits x = lit();
            for (int format = 0; format < 8; format++) {
                x.picture(3, from, 0, 0, 1, format);
                Check.colour(x, "from " + from + " format " + format, 3, 0, 0, 0, untoldA[format]);
                Check.reading(x, Check.at(3, 0, 0, 0), 0, 0, 0, untoldA[format]);
            }
        }
    }

    /** Four rows of a word each, from word 2046: two of them are there. */
    private static void aPictureOverTheEnd() {
        TextureUnits x = lit();
        x.picture(1, 2046, 2, 2, 1, 4);
        for (int y = 0; y < 4; y++) {
            for (int k = 0; k < 4; k++) {
                int due = y < 2 ? 65536 : 0;
                Check.due("texel " + k + ", " + y, x.texel(1, 0, k, y, 0), due);
                Check.due("reading " + k + ", " + y, x.read(1, k << 14, y << 14, 0), due);
            }
        }
    }

    private static void aLevelBehindTheEnd() {
        TextureUnits x = lit();
        x.picture(0, 2047, 0, 0, 3, 0);
        Check.due("level 0", x.texel(0, 0, 0, 0, 0), 65536);
        Check.due("level 1", x.texel(0, 1, 0, 0, 0), 0);
        Check.due("level 2", x.texel(0, 2, 0, 0, 0), 0);
        for (int filter = 0; filter < 4; filter++) {
            x.manner(0, 1, 1, filter);
            int half = filter < 2 ? 65536 : 32768;
            Check.reading(x, Check.at(0, 0, 0, 32768), half, half, half, half);
            Check.reading(x, Check.at(0, 0, 0, 65536), 0, 0, 0, 0);
        }
    }

    private static void fourTexelsOverTheEnd() {
        TextureUnits x = lit();
        x.manner(0, 1, 1, 1);
        x.picture(0, 2047, 1, 0, 1, 0);
        Check.reading(x, Check.at(0, 32768, 0, 0), 32768, 32768, 32768, 32768);
        x.picture(0, 2047, 0, 1, 1, 0);
        Check.reading(x, Check.at(0, 0, 32768, 0), 32768, 32768, 32768, 32768);
    }

    /** As ints, words behind the greatest one would lie below 0. */
    private static void wordsBehindTheGreatestInt() {
        for (int format = 0; format < 8; format++) {
            TextureUnits x = lit();
            x.picture(0, GREATEST, 10, 10, 11, format);
            int channel = format == 5 ? 3 : 2;
            for (int level = 0; level < 11; level++) {
                int last = (1024 >> level) - 1;
                Check.due("first of level " + level, x.texel(0, level, 0, 0, channel), 0);
                Check.due("last across of level " + level, x.texel(0, level, last, 0, channel), 0);
                Check.due("last of level " + level, x.texel(0, level, last, last, channel), 0);
            }
            for (int filter = 0; filter < 4; filter++) {
                x.manner(0, 2, 2, filter);
                x.read(0, 65535, 65535, 65536 + 77);
                Check.due("filter " + filter, x.also(channel), 0);
            }
        }
    }

    /** "bit k is bit k mod 32 of word from + k / 32 (the lowest one is bit 0)". */
    private static void lowestAndHighestBitOfAWord() {
        TextureUnits x = new TextureUnits();
        x.picture(0, 5, 4, 0, 1, 7);
        x.poke(5, 1);
        Check.due("bit 0", x.texel(0, 0, 0, 0, 0), 4369);
        Check.due("not bit 31", x.texel(0, 0, 7, 0, 0), 0);
        x.poke(5, Integer.MIN_VALUE);
        Check.due("bit 31", x.texel(0, 0, 7, 0, 0), 34953);
        Check.due("not bit 0", x.texel(0, 0, 0, 0, 0), 0);
        Check.due("not bit 32", x.texel(0, 0, 8, 0, 0), 0);
        x.poke(5, 0);
        x.poke(6, 1);
        Check.due("bit 32", x.texel(0, 0, 8, 0, 0), 4369);
        Check.due("not bit 31 by the next word", x.texel(0, 0, 7, 0, 0), 0);
        x.poke(6, 0);
        x.poke(4, -1);
        Check.due("nothing before from", x.texel(0, 0, 0, 0, 0), 0);
    }

    /** "An object is used for at most 512 calls": the 512th is answered as the first is. */
    private static void fiveHundredAndTwelveCalls() {
        TextureUnits x = new TextureUnits();
        for (int k = 0; k < 510; k++) {
            x.poke(2047 - k, k % 256);
        }
        x.picture(0, 2047 - 509, 9, 0, 1, 0);
        Check.due("call 512", x.texel(0, 0, 254, 0, 0), 65536);
    }
}
