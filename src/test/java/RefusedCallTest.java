import java.util.ArrayList;
import java.util.List;

/** Terms: "A call that throws changes nothing"; and every edge behind which a call of promises 2 to 9 is refused. */
public final class RefusedCallTest {
    private static final int LEAST = Integer.MIN_VALUE;
    private static final int GREATEST = Integer.MAX_VALUE;
    private static final int[] NO_UNITS = {-1, 4, 5, 256, LEAST, LEAST + 1, GREATEST};

    private interface Use {
        void on(TextureUnits x);
    }

    public static void main(String[] args) {
        wordsThatThereAreNot();
        unitsThatThereAreNot();
        picturesThatThereAreNot();
        mannersThatThereAreNot();
        texelsThatThereAreNot();
        channelsThatThereAreNot();
        whatIsJustInsideIsTaken();
        aMissingUnitIsToldFirst();
        manyRefusalsOneAfterTheOther();
        memoryIsLeftByARefusedPoke();
        Check.end();
    }

    /** Everything set to something that is not as it was at first, and a reading made. */
    private static TextureUnits prepared() {
        TextureUnits x = new TextureUnits();
        for (int k = 0; k < 30; k++) {
            x.poke(k, 0x01020408 * (k + 1));
        }
        x.poke(2047, 0x0A0B0C0D);
        x.picture(0, 1, 1, 2, 2, 0);
        x.picture(1, 2, 2, 1, 3, 1);
        x.picture(2, 3, 0, 3, 4, 3);
        x.picture(3, 4, 3, 3, 2, 7);
        for (int unit = 0; unit < 4; unit++) {
            x.manner(unit, 3 - unit, (unit + 2) % 4, (unit + 1) % 4);
            x.border(unit, 100 + unit, 200 + unit, 300 + unit, 400 + unit);
        }
        x.read(0, 20000, 30000, 40000);
        return x;
    }

    /** Whatever can be seen of the object, the latest reading first, as looking makes new ones. */
    private static List<Integer> seen(TextureUnits x) {
        List<Integer> all = new ArrayList<>();
        addReading(x, all);
        for (int unit = 0; unit < 4; unit++) {
            all.add(x.texels(unit));
            for (int s = -70000; s < 150000; s += 52345) {
                all.add(x.read(unit, s, s / 3 + 12345, 20000));
                addReading(x, all);
                all.add(x.read(unit, s / 5 + 23456, s, 0));
            }
            x.manner(unit, 3, 3, 0);
            all.add(x.read(unit, -1, -1, 0));
            addReading(x, all);
            x.manner(unit, 0, 0, 0);
            all.add(x.read(unit, 65535, 65535, 0));
            all.add(x.read(unit, 65535, 65535, GREATEST));
            addReading(x, all);
        }
        return all;
    }

    private static void addReading(TextureUnits x, List<Integer> all) {
        for (int c = 0; c < 4; c++) {
            all.add(x.also(c));
        }
    }

    private static void changesNothing(String what, Class<?> want, Use use) {
        TextureUnits x = prepared();
        Check.refused(what, want, () -> use.on(x));
        if (!seen(x).equals(seen(prepared()))) {
            Check.say(what + " was refused, but it changed something");
        }
    }

    private static void wordsThatThereAreNot() {
        for (int k : new int[] {LEAST, LEAST + 1, -2048, -2047, -1, 2048, 2049, 4095, 4096, 65536, GREATEST}) {
            changesNothing("poke " + k, Check.NO_PLACE, x -> x.poke(k, 0x55555555));
        }
    }

    private static void unitsThatThereAreNot() {
        for (int u : NO_UNITS) {
            changesNothing("picture of unit " + u, Check.NO_UNIT, x -> x.picture(u, 9, 3, 3, 4, 4));
            changesNothing("manner of unit " + u, Check.NO_UNIT, x -> x.manner(u, 0, 1, 2));
            changesNothing("border of unit " + u, Check.NO_UNIT, x -> x.border(u, 9, 9, 9, 9));
            changesNothing("texel of unit " + u, Check.NO_UNIT, x -> x.texel(u, 0, 0, 0, 0));
            changesNothing("texels of unit " + u, Check.NO_UNIT, x -> x.texels(u));
            changesNothing("read of unit " + u, Check.NO_UNIT, x -> x.read(u, 11111, 55555, 0));
        }
    }

    private static void picturesThatThereAreNot() {
        for (int unit = 0; unit < 4; unit++) {
            int u = unit;
            for (int v : new int[] {-1, -2, LEAST + 1, LEAST}) {
                changesNothing("from " + v, Check.BAD_ARGUMENT, x -> x.picture(u, v, 3, 4, 5, 6));
            }
            for (int v : new int[] {-1, 11, 12, 31, 32, LEAST, GREATEST}) {
                changesNothing("a " + v, Check.BAD_ARGUMENT, x -> x.picture(u, 9, v, 4, 5, 6));
                changesNothing("b " + v, Check.BAD_ARGUMENT, x -> x.picture(u, 9, 3, v, 5, 6));
            }
            for (int v : new int[] {0, -1, 12, 13, 32, LEAST, GREATEST}) {
                changesNothing("levels " + v, Check.BAD_ARGUMENT, x -> x.picture(u, 9, 3, 4, v, 6));
            }
            for (int v : new int[] {-1, 8, 9, 16, LEAST, GREATEST}) {
                changesNothing("format " + v, Check.BAD_ARGUMENT, x -> x.picture(u, 9, 3, 4, 5, v));
            }
        }
    }

    private static void mannersThatThereAreNot() {
        for (int unit = 0; unit < 4; unit++) {
            int u = unit;
            for (int v : new int[] {-1, 4, 5, 8, 256, LEAST, GREATEST}) {
                changesNothing("across " + v, Check.BAD_ARGUMENT, x -> x.manner(u, v, 1, 3));
                changesNothing("down " + v, Check.BAD_ARGUMENT, x -> x.manner(u, 1, v, 3));
                changesNothing("filter " + v, Check.BAD_ARGUMENT, x -> x.manner(u, 1, 1, v));
            }
        }
    }

    /** Unit 1 is 4 x 2, 2 x 1 and 1 x 1. */
    private static void texelsThatThereAreNot() {
        int[][] none = {
            {-1, 0, 0, 0}, {3, 0, 0, 0}, {LEAST, 0, 0, 0}, {GREATEST, 0, 0, 0}, {32, 0, 0, 0},
            {0, -1, 0, 0}, {0, 4, 0, 0}, {0, LEAST, 0, 0}, {0, GREATEST, 0, 0},
            {0, 0, -1, 0}, {0, 0, 2, 0}, {0, 0, LEAST, 0}, {0, 0, GREATEST, 0},
            {1, 2, 0, 0}, {1, 0, 1, 0}, {2, 1, 0, 0}, {2, 0, 1, 0},
            {0, 0, 0, -1}, {0, 0, 0, 4}, {0, 0, 0, LEAST}, {0, 0, 0, GREATEST},
            {3, 4, 2, 4}, {-1, -1, -1, -1}};
        for (int[] n : none) {
            changesNothing("texel " + n[0] + ", " + n[1] + ", " + n[2] + ", " + n[3], Check.NO_PLACE,
                x -> x.texel(1, n[0], n[1], n[2], n[3]));
        }
    }

    private static void channelsThatThereAreNot() {
        for (int c : new int[] {-1, 4, 5, LEAST, GREATEST}) {
            changesNothing("also " + c, Check.NO_PLACE, x -> x.also(c));
            TextureUnits unread = new TextureUnits();
            Check.refused("also " + c + " before any reading", Check.NO_PLACE, () -> unread.also(c));
        }
    }

    /** The first and the last of every range that the promises name; a throw here ends the test with 1. */
    private static void whatIsJustInsideIsTaken() {
        TextureUnits x = new TextureUnits();
        x.poke(0, 1);
        x.poke(2047, 1);
        for (int u : new int[] {0, 3}) {
            x.picture(u, 0, 0, 0, 1, 0);
            x.picture(u, GREATEST, 10, 10, 11, 7);
            Check.due("the last texel of all", x.texel(u, 10, 0, 0, 0), 0);
            Check.due("the last texel of level 0", x.texel(u, 0, 1023, 1023, 3), 65536);
            x.manner(u, 0, 0, 0);
            x.manner(u, 3, 3, 3);
            x.border(u, LEAST, LEAST, GREATEST, GREATEST);
            Check.reading(x, Check.at(u, LEAST, LEAST, LEAST), LEAST, LEAST, GREATEST, GREATEST);
            Check.reading(x, Check.at(u, GREATEST, GREATEST, GREATEST), LEAST, LEAST, GREATEST, GREATEST);
            Check.due("all texels", x.texels(u), 1398101);
        }
    }

    /** The promises name the missing unit before the wrong arguments. */
    private static void aMissingUnitIsToldFirst() {
        for (int u : NO_UNITS) {
            changesNothing("picture, all wrong", Check.NO_UNIT, x -> x.picture(u, -1, 11, -1, 0, 8));
            changesNothing("manner, all wrong", Check.NO_UNIT, x -> x.manner(u, -1, 4, 4));
            changesNothing("texel, all wrong", Check.NO_UNIT, x -> x.texel(u, -1, -1, -1, 4));
        }
    }

    private static void manyRefusalsOneAfterTheOther() {
        TextureUnits x = prepared();
        for (int k = 0; k < 20; k++) {
            Check.refused("poke", Check.NO_PLACE, () -> x.poke(2048, 1));
            Check.refused("picture", Check.BAD_ARGUMENT, () -> x.picture(0, 0, 0, 0, 12, 0));
            Check.refused("manner", Check.BAD_ARGUMENT, () -> x.manner(1, 0, 0, 4));
            Check.refused("border", Check.NO_UNIT, () -> x.border(4, 0, 0, 0, 0));
            Check.refused("texel", Check.NO_PLACE, () -> x.texel(2, 4, 0, 0, 0));
            Check.refused("texels", Check.NO_UNIT, () -> x.texels(-1));
            Check.refused("read", Check.NO_UNIT, () -> x.read(4, 0, 0, 0));
            Check.refused("also", Check.NO_PLACE, () -> x.also(4));
        }
        if (!seen(x).equals(seen(prepared()))) {
            Check.say("many refusals changed something");
        }
    }

    private static void memoryIsLeftByARefusedPoke() {
        for (int first = 0; first < 2048; first += 64) {
            TextureUnits x = new TextureUnits();
            for (int k : new int[] {LEAST, -2048, -1, 2048, 4095, GREATEST}) {
                Check.refused("poke " + k, Check.NO_PLACE, () -> x.poke(k, -1));
            }
            x.picture(0, first, 6, 0, 1, 0);
            for (int k = 0; k < 64; k++) {
                for (int c = 0; c < 4; c++) {
                    Check.due("word " + (first + k) + " after refused pokes", x.texel(0, 0, k, 0, c), 0);
                }
            }
        }
    }
}
