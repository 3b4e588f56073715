/** Promise 7. */
public final class TexelsTest {
    public static void main(String[] args) {
        everySize();
        theGreatest();
        unitsThatThereAreNot();
        Check.end();
    }

    private static void everySize() {
        for (int a = 0; a <= 10; a++) {
            for (int b = 0; b <= 10; b++) {
                TextureUnits x = new TextureUnits();
                for (int levels = 1; levels <= 11; levels++) {
                    x.picture(levels % 4, 0, a, b, levels, levels % 8);
                    Check.due("texels of " + a + ", " + b + ", " + levels, x.texels(levels % 4), sum(a, b, levels));
                }
            }
        }
    }

    private static int sum(int a, int b, int levels) {
        int width = (int) Math.pow(2, a);
        int height = (int) Math.pow(2, b);
        int sum = 0;
        for (int k = 0; k < levels; k++) {
            sum += width * height;
            width = Math.max(1, width / 2);
            height = Math.max(1, height / 2);
        }
        return sum;
    }

    private static void theGreatest() {
        TextureUnits x = new TextureUnits();
        x.picture(0, Integer.MAX_VALUE, 10, 10, 11, 0);
        Check.due("all levels", x.texels(0), 1398101);
        x.picture(0, 0, 10, 0, 11, 7);
        Check.due("one row", x.texels(0), 2047);
        x.picture(0, 0, 0, 0, 11, 0);
        Check.due("one texel a level", x.texels(0), 11);
        x.picture(0, 0, 2, 0, 1, 0);
        Check.due("a lesser one after it", x.texels(0), 4);
    }

    private static void unitsThatThereAreNot() {
        TextureUnits x = new TextureUnits();
        for (int unit : new int[] {-1, 4, Integer.MIN_VALUE, Integer.MAX_VALUE}) {
            Check.refused("texels of unit " + unit, Check.NO_UNIT, () -> x.texels(unit));
        }
    }
}
