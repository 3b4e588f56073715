import java.util.NoSuchElementException;

/** What every test of the project counts with: it prints each wrong answer, and ends with 1 if there was one. */
final class Check {
    static final Class<?> NO_UNIT = NoSuchElementException.class;
    static final Class<?> NO_PLACE = IndexOutOfBoundsException.class;
    static final Class<?> BAD_ARGUMENT = IllegalArgumentException.class;

    interface Call {
        void run();
    }

    private static int wrong = 0;

    private Check() {
    }

    static void due(String what, long got, long want) {
        if (got != want) {
            say(what + " answered " + got + ", due is " + want);
        }
    }

    /** The very class is asked for: what the machine throws is a class below the document's one. */
    static void refused(String what, Class<?> want, Call call) {
        try {
            call.run();
        } catch (RuntimeException e) {
            if (e.getClass() != want) {
                say(what + " threw " + e.getClass() + ", due is " + want);
            }
            return;
        }
        say(what + " threw nothing, due is " + want);
    }

    /** All four channels of a reading; read itself answers the first. */
    static void reading(TextureUnits x, int[] at, int r, int g, int b, int a) {
        String what = "read(" + at[0] + ", " + at[1] + ", " + at[2] + ", " + at[3] + ")";
        due(what, x.read(at[0], at[1], at[2], at[3]), r);
        due(what + " also(0)", x.also(0), r);
        due(what + " also(1)", x.also(1), g);
        due(what + " also(2)", x.also(2), b);
        due(what + " also(3)", x.also(3), a);
    }

    static int[] at(int unit, int s, int t, int l) {
        return new int[] {unit, s, t, l};
    }

    static void colour(TextureUnits x, String what, int unit, int... rgba) {
        for (int c = 0; c < 4; c++) {
            due(what + " channel " + c, x.texel(unit, 0, 0, 0, c), rgba[c]);
        }
    }

    static void say(String text) {
        wrong++;
        System.out.println(text);
    }

    static void end() {
        if (wrong != 0) {
            System.out.println(wrong + " wrong");
            System.exit(1);
        }
    }
}
