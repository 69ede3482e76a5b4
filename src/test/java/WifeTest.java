/** Promises 35 to 37: looks, rests, rest. */
public final class WifeTest {
    private WifeTest() {
    }

    public static void main(String[] args) {
        wrongInputs();
        ShoreGuards x = Check.beachOf(Check.USUAL);
        for (int fear = 0; fear <= 9; fear++) {
            looks(x, fear, true, true, 3, 3);
            looks(x, fear, true, false, 1 - fear, 2);
            looks(x, fear, false, true, 2, 1 - fear);
            looks(x, fear, false, false, 0, 0);
            // Without fear who looks alone has more than by not looking; with it neither wins by it.
            Check.granted(x, "rests(" + fear + ")", x.rests(fear), fear == 0 ? 1 : 2);
            Check.granted(x, "rest(" + fear + ")", x.rest(fear), fear == 0 ? 11 : 0);
        }
        Check.finish();
    }

    private static void looks(ShoreGuards x, int fear, boolean guard, boolean wife, int ofGuard, int ofWife) {
        String call = "looks(" + fear + ", " + guard + ", " + wife;
        Check.granted(x, call + ", false)", x.looks(fear, guard, wife, false), ofGuard);
        Check.granted(x, call + ", true)", x.looks(fear, guard, wife, true), ofWife);
    }

    private static void wrongInputs() {
        ShoreGuards x = new ShoreGuards();
        Check.refused(x, "looks(0, ..)", x.looks(0, true, true, true), -100, 1);
        Check.refused(x, "looks(10, ..)", x.looks(10, true, true, true), -100, 1);
        Check.refused(x, "rests(0)", x.rests(0), -1, 1);
        Check.refused(x, "rest(-1)", x.rest(-1), -1, 1);
        ShoreGuards y = Check.beachOf(Check.USUAL);
        for (int fear : new int[] {-1, 10, Integer.MIN_VALUE, Integer.MAX_VALUE}) {
            Check.refused(y, "looks(" + fear + ", ..)", y.looks(fear, false, false, false), -100, 2);
            Check.refused(y, "rests(" + fear + ")", y.rests(fear), -1, 2);
            Check.refused(y, "rest(" + fear + ")", y.rest(fear), -1, 2);
        }
    }
}
