/** Promises 28 to 31: odds, likeliest, among, suspects. */
public final class SignsTest {
    private static final String THREE = ";person a reader at 1 thought 1 by 1;person b reader at 2 thought 1 by 1;person c reader at 3 thought 1 by 1";

    private SignsTest() {
    }

    public static void main(String[] args) {
        wrongInputs();
        usual();
        certain();
        impossible();
        largest();
        Check.finish();
    }

    private static void odds(ShoreGuards x, int p, long upper, long lower) {
        Check.granted(x, "odds(" + p + ", false)", x.odds(p, false), upper);
        Check.granted(x, "odds(" + p + ", true)", x.odds(p, true), lower);
    }

    private static void among(ShoreGuards x, int people, long upper, long lower) {
        Check.granted(x, "among(" + people + ", false)", x.among(people, false), upper);
        Check.granted(x, "among(" + people + ", true)", x.among(people, true), lower);
    }

    private static void wrongInputs() {
        ShoreGuards x = new ShoreGuards();
        Check.refused(x, "odds(0, false)", x.odds(0, false), -1, 1);
        Check.refused(x, "likeliest()", x.likeliest(), -1, 1);
        Check.refused(x, "among(0, false)", x.among(0, false), -1, 1);
        Check.refused(x, "suspects()", x.suspects(), -1, 1);
        ShoreGuards y = Check.beachOf(Check.USUAL);
        for (int p : new int[] {-1, 4, Integer.MIN_VALUE, Integer.MAX_VALUE}) {
            Check.refused(y, "odds(" + p + ", false)", y.odds(p, false), -1, 1);
            Check.refused(y, "odds(" + p + ", true)", y.odds(p, true), -1, 1);
        }
        for (int people : new int[] {-1, 16, 17, 32, Integer.MIN_VALUE, Integer.MAX_VALUE}) {
            Check.refused(y, "among(" + people + ", false)", y.among(people, false), -1, 1);
            Check.refused(y, "among(" + people + ", true)", y.among(people, true), -1, 1);
        }
    }

    private static void usual() {
        ShoreGuards x = Check.beachOf(Check.USUAL);
        odds(x, 0, 1, 22);
        odds(x, 1, 8, 11);
        odds(x, 2, 1, 22);
        odds(x, 3, 2, 11);
        Check.granted(x, "likeliest()", x.likeliest(), 1);
        among(x, 0, 0, 1);
        among(x, 5, 1, 11);
        among(x, 10, 10, 11);
        among(x, 15, 1, 1);
        Check.granted(x, "suspects()", x.suspects(), 2);
        // Signs are told for good: what acts change is no matter.
        x.seat(0, 70);
        x.minute(9);
        odds(x, 0, 1, 22);
        Check.due("lift(1)", x.lift(1), 0);
        odds(x, 1, 8, 11);
        Check.granted(x, "likeliest(), LIFTED", x.likeliest(), 1);
    }

    private static void certain() {
        ShoreGuards x = Check.beachOf("beach limit 5 heat 0 slips 0" + THREE + ";waved c");
        odds(x, 0, 0, 1);
        odds(x, 2, 1, 1);
        Check.granted(x, "likeliest()", x.likeliest(), 2);
        Check.granted(x, "suspects()", x.suspects(), 4);
        // Without signs each is as likely; two of three are more than half, the least bits first.
        ShoreGuards y = Check.beachOf("beach limit 5 heat 0 slips 30" + THREE);
        odds(y, 1, 1, 3);
        Check.granted(y, "likeliest(), the first", y.likeliest(), 0);
        Check.granted(y, "suspects()", y.suspects(), 3);
        // The first one alone.
        ShoreGuards first = Check.beachOf("beach limit 5 heat 0 slips 20" + THREE + ";waved a;still b");
        Check.granted(first, "suspects(), the first", first.suspects(), 1);
        // 40, 40, 40 and 60: two with d, though the three ahead of him have lesser bits.
        ShoreGuards two = Check.beachOf("beach limit 5 heat 0 slips 40" + THREE + ";person d reader at 4 thought 1 by 1;waved d");
        odds(two, 0, 2, 9);
        odds(two, 3, 1, 3);
        Check.granted(two, "suspects(), two", two.suspects(), 9);
        // By slips of 50 a sign tells nothing.
        ShoreGuards even = Check.beachOf("beach limit 5 heat 0 slips 50" + THREE + ";waved a;still b");
        for (int p = 0; p < 3; p++) {
            odds(even, p, 1, 3);
        }
        // All wave, all sit still: each as likely.
        ShoreGuards all = Check.beachOf("beach limit 5 heat 0 slips 10" + THREE + ";waved a;waved b;waved c");
        odds(all, 2, 1, 3);
        ShoreGuards none = Check.beachOf("beach limit 5 heat 0 slips 10" + THREE + ";still a;still b;still c");
        odds(none, 2, 1, 3);
        Check.granted(none, "likeliest(), none waved", none.likeliest(), 0);
        // Just half isn't more.
        ShoreGuards z = Check.beachOf("beach limit 5 heat 0 slips 0;person a reader at 1 thought 1 by 1;person b reader at 2 thought 1 by 1");
        odds(z, 1, 1, 2);
        Check.granted(z, "suspects(), half", z.suspects(), 3);
        // slips 100: who waves is the only one who isn't.
        ShoreGuards w = Check.beachOf("beach limit 5 heat 0 slips 100" + THREE + ";waved a;waved b;still c");
        odds(w, 2, 1, 1);
        odds(w, 0, 0, 1);
    }

    private static void impossible() {
        ShoreGuards x = Check.beachOf("beach limit 5 heat 0 slips 0" + THREE + ";waved a;waved b");
        odds(x, 0, 0, 1);
        odds(x, 2, 0, 1);
        among(x, 7, 0, 1);
        Check.granted(x, "likeliest()", x.likeliest(), -2);
        Check.granted(x, "suspects()", x.suspects(), -2);
        // All sit still without slips: none of them can be sinking.
        ShoreGuards y = Check.beachOf("beach limit 5 heat 0 slips 0" + THREE + ";still a;still b;still c");
        odds(y, 1, 0, 1);
        among(y, 7, 0, 1);
        among(y, 0, 0, 1);
        Check.granted(y, "likeliest()", y.likeliest(), -2);
        Check.granted(y, "suspects()", y.suspects(), -2);
    }

    private static void largest() {
        ShoreGuards x = Check.beachOf("beach limit 5 heat 0 slips 1" + THREE
            + ";person d reader at 1 thought 1 by 1;person e reader at 2 thought 1 by 1;person f reader at 3 thought 1 by 1"
            + ";waved a;still b;still c;still d;still e;still f");
        // 99 times 99 to 5 times 1 times 1 against each other: 99^6 and five times 99^4.
        odds(x, 0, 9801, 9806);
        odds(x, 5, 1, 9806);
        among(x, 62, 5, 9806);
    }
}
