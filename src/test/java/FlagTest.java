/** Promises 32 to 34: flag, teach, hears. */
public final class FlagTest {
    private static final String SIX = "beach limit 5 heat 0 slips 0;person a reader at 1 thought 7 by 1;person b reader at 20 thought 3 by 1;"
        + "person c reader at 40 thought 3 by 1;person d reader at 60 thought 99 by 1;person e reader at 80 thought 50 by 1;person f child at 80 thought 0 by 1";

    private FlagTest() {
    }

    public static void main(String[] args) {
        wrongInputs();
        flag();
        teach();
        hears();
        Check.finish();
    }

    private static void wrongInputs() {
        ShoreGuards x = new ShoreGuards();
        Check.refused(x, "flag(0)", x.flag(0), -1, 1);
        Check.refused(x, "teach()", x.teach(), -1, 1);
        Check.refused(x, "hears(0)", x.hears(0), -1, 1);
        ShoreGuards y = Check.beachOf(SIX);
        for (int many : new int[] {0, 7, -1, Integer.MIN_VALUE, Integer.MAX_VALUE}) {
            Check.refused(y, "flag(" + many + ")", y.flag(many), -1, 2);
        }
        Check.refused(y, "hears(-1)", y.hears(-1), -1, 1);
        Check.refused(y, "hears(6)", y.hears(6), -1, 1);
    }

    private static void flag() {
        ShoreGuards x = Check.beachOf(SIX);
        int[] minutes = {3, 3, 7, 50, 99, -2};
        for (int many = 1; many <= 6; many++) {
            Check.granted(x, "flag(" + many + ")", x.flag(many), minutes[many - 1]);
        }
        x.seat(5, 90);
        Check.granted(x, "flag(1), the child too", x.flag(1), 0);
        Check.granted(x, "flag(6)", x.flag(6), 99);
        // Who is LOST has begun too, however late it is NOW.
        x.minute(60);
        Check.granted(x, "flag(3)", x.flag(3), 3);
    }

    private static void teach() {
        ShoreGuards none = Check.beachOf(SIX);
        Check.granted(none, "teach(), nobody known", none.teach(), 63);
        // The first one knows the second one, not the other way.
        ShoreGuards x = Check.beachOf(SIX + ";knows b a;knows b c;knows e d;knows e f");
        Check.granted(x, "teach()", x.teach(), 2 + 16);
        // One step alone counts: a knows b, b knows c.
        ShoreGuards y = Check.beachOf(SIX + ";knows a b;knows b c;knows c d;knows d e;knows e f;knows f a");
        Check.granted(y, "teach(), a ring", y.teach(), 1 + 4 + 16);
        ShoreGuards z = Check.beachOf(SIX + ";knows f a;knows f b;knows f c;knows f d;knows f e");
        Check.granted(z, "teach(), one", z.teach(), 32);
    }

    private static void hears() {
        ShoreGuards x = Check.beachOf(SIX + ";knows f e;knows e d;knows d c;knows c b;knows b a;knows a f");
        for (int p = 0; p < 6; p++) {
            Check.granted(x, "hears(" + p + ") of a ring", x.hears(p), 63);
        }
        ShoreGuards y = Check.beachOf(SIX + ";knows f e;knows e d;knows d c;knows c b;knows b a");
        for (int p = 0; p < 6; p++) {
            Check.granted(y, "hears(" + p + ") of a chain", y.hears(p), (1 << p + 1) - 1);
        }
    }
}
