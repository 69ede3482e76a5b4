/** Promises 38 to 42: safe, sinking, mean, afternoons, worst. */
public final class ChanceTest {
    /** Readers by 50, 25, 10 and a child NEAR one, who never SINKS, by 100; only a is REACHED. */
    private static final String FOUR = "beach limit 5 heat 0 slips 0;person a reader at 10 thought 1 by 50;person b reader at 40 thought 1 by 25;"
        + "person c reader at 60 thought 1 by 10;person d child at 61 thought 1 by 100;post s at 10 off 5;post t at 60 off 4;manned s";

    private ChanceTest() {
    }

    public static void main(String[] args) {
        wrongInputs();
        chances();
        largest();
        draws();
        Check.finish();
    }

    private static void safe(ShoreGuards x, long upper, long lower) {
        Check.granted(x, "safe(false)", x.safe(false), upper);
        Check.granted(x, "safe(true)", x.safe(true), lower);
    }

    private static void sinking(ShoreGuards x, int many, long upper, long lower) {
        Check.granted(x, "sinking(" + many + ", false)", x.sinking(many, false), upper);
        Check.granted(x, "sinking(" + many + ", true)", x.sinking(many, true), lower);
    }

    private static void mean(ShoreGuards x, long upper, long lower) {
        Check.granted(x, "mean(false)", x.mean(false), upper);
        Check.granted(x, "mean(true)", x.mean(true), lower);
    }

    private static void wrongInputs() {
        ShoreGuards x = new ShoreGuards();
        Check.refused(x, "safe(false)", x.safe(false), -1, 1);
        Check.refused(x, "sinking(9, false)", x.sinking(9, false), -1, 1);
        Check.refused(x, "mean(true)", x.mean(true), -1, 1);
        Check.refused(x, "afternoons(0, -1, 0)", x.afternoons(0, -1, 0), -1, 1);
        Check.refused(x, "worst(0, 91)", x.worst(0, 91), -1, 1);
        ShoreGuards y = Check.beachOf(FOUR);
        Check.refused(y, "sinking(-1, false)", y.sinking(-1, false), -1, 2);
        Check.refused(y, "sinking(7, true)", y.sinking(7, true), -1, 2);
        Check.refused(y, "afternoons(4, 0, 0)", y.afternoons(4, 0, 0), -1, 1);
        Check.refused(y, "afternoons(-1, -1, 0)", y.afternoons(-1, -1, 0), -1, 1);
        for (int seed : new int[] {-1, 65537, Integer.MIN_VALUE, Integer.MAX_VALUE}) {
            Check.refused(y, "afternoons(0, " + seed + ", 1)", y.afternoons(0, seed, 1), -1, 2);
            Check.refused(y, "worst(" + seed + ", 1)", y.worst(seed, 1), -1, 2);
        }
        for (int n : new int[] {-1, 91, Integer.MIN_VALUE, Integer.MAX_VALUE}) {
            Check.refused(y, "afternoons(0, 0, " + n + ")", y.afternoons(0, 0, n), -1, 2);
            Check.refused(y, "worst(0, " + n + ")", y.worst(0, n), -1, 2);
        }
    }

    private static void chances() {
        ShoreGuards x = Check.beachOf(FOUR);
        safe(x, 27, 40);
        mean(x, 7, 20);
        sinking(x, 0, 27, 80);
        // 50*75*90 + 50*25*90 + 50*75*10 of a million.
        sinking(x, 1, 39, 80);
        sinking(x, 2, 13, 80);
        sinking(x, 3, 1, 80);
        sinking(x, 4, 0, 1);
        sinking(x, 6, 0, 1);
        x.man(1);
        safe(x, 3, 4);
        mean(x, 1, 4);
        sinking(x, 0, 27, 80);
        // Who is LIFTED no longer sinks.
        x.minute(1);
        Check.due("lift(0)", x.lift(0), 0);
        sinking(x, 0, 27, 40);
        x.leave(1);
        safe(x, 27, 40);
        ShoreGuards y = Check.beachOf("beach limit 5 heat 0 slips 0;person a child at 10 thought 1 by 50;person b child at 10 thought 1 by 50");
        safe(y, 1, 1);
        mean(y, 0, 1);
        sinking(y, 0, 1, 1);
        sinking(y, 1, 0, 1);
        ShoreGuards z = Check.beachOf("beach limit 5 heat 0 slips 0;person a reader at 10 thought 1 by 100;person b reader at 10 thought 1 by 100");
        safe(z, 0, 1);
        mean(z, 2, 1);
        sinking(z, 2, 1, 1);
        sinking(z, 0, 0, 1);
    }

    private static void largest() {
        StringBuilder text = new StringBuilder("beach limit 5 heat 0 slips 0");
        for (char name = 'a'; name <= 'f'; name++) {
            text.append(";person ").append(name).append(" reader at 1 thought 1 by 1");
        }
        ShoreGuards x = Check.beachOf(text.toString());
        safe(x, 941480149401L, 1000000000000L);
        sinking(x, 6, 1, 1000000000000L);
        sinking(x, 1, 3L * 9509900499L, 500000000000L);
        mean(x, 3, 50);
    }

    /** In how many of n DRAWS of one person each it is below by. */
    private static int below(long seed, int n, int by) {
        int many = 0;
        for (int i = 0; i < n; i++) {
            seed = (75 * seed + 74) % 65537;
            many += seed % 100 < by ? 1 : 0;
        }
        return many;
    }

    /** By 0 never, by 100 each time. */
    private static void by(int told, int times) {
        ShoreGuards x = Check.beachOf("beach limit 5 heat 0 slips 0;person a reader at 1 thought 1 by " + told);
        for (int seed : new int[] {0, 1, 4711, 65535, 65536}) {
            Check.granted(x, "afternoons by " + told, x.afternoons(0, seed, 90), times);
            Check.granted(x, "worst by " + told, x.worst(seed, 90), times / 90);
        }
    }

    private static void draws() {
        // SEED 0: 74, 24, 52, 90 of the first afternoon, 41, 9, 31 and so on of the next.
        ShoreGuards x = Check.beachOf(Check.USUAL);
        Check.granted(x, "worst(0, 1)", x.worst(0, 1), 1);
        Check.granted(x, "worst(0, 2)", x.worst(0, 2), 2);
        Check.granted(x, "worst(0, 0)", x.worst(0, 0), 0);
        Check.granted(x, "afternoons(1, 0, 90), REACHED", x.afternoons(1, 0, 90), 0);
        x.leave(0);
        Check.granted(x, "afternoons(1, 0, 90), certain", x.afternoons(1, 0, 90), 90);
        Check.granted(x, "afternoons(1, 0, 0)", x.afternoons(1, 0, 0), 0);
        Check.granted(x, "afternoons(2, 0, 90), by 0", x.afternoons(2, 0, 90), 0);
        Check.granted(x, "afternoons(0, 0, 1)", x.afternoons(0, 0, 1), 0);
        Check.granted(x, "afternoons(0, 0, 2)", x.afternoons(0, 0, 2), 1);
        // One person: below by he does, not at it. SEED 0 draws 74.
        String one = "beach limit 5 heat 0 slips 0;person a reader at 1 thought 1 by ";
        ShoreGuards y = Check.beachOf(one + 74);
        Check.granted(y, "afternoons by 74", y.afternoons(0, 0, 1), 0);
        ShoreGuards z = Check.beachOf(one + 75);
        Check.granted(z, "afternoons by 75", z.afternoons(0, 0, 1), 1);
        // SEED 65536 is as -1: -75 and 74 are -1 again, 65536, which draws 36 for ever.
        ShoreGuards w = Check.beachOf(one + 37);
        Check.granted(w, "afternoons by SEED 65536", w.afternoons(0, 65536, 90), 90);
        Check.granted(w, "worst by SEED 65536", w.worst(65536, 90), 1);
        // Who never SINKS takes no DRAW: then b's is the first one.
        ShoreGuards v = Check.beachOf("beach limit 5 heat 0 slips 0;person a child at 1 thought 1 by 100;person b talker at 1 thought 1 by 75");
        Check.granted(v, "afternoons of the child", v.afternoons(0, 0, 9), 0);
        Check.granted(v, "afternoons of the talker", v.afternoons(1, 0, 1), 1);
        Check.granted(v, "worst, the child never SINKS", v.worst(0, 1), 1);
        ShoreGuards u = Check.beachOf("beach limit 5 heat 0 slips 0;person a child at 1 thought 1 by 100;person b talker at 1 thought 1 by 74");
        Check.granted(u, "afternoons by 74, at it", u.afternoons(1, 0, 1), 0);
        Check.granted(u, "worst by 74, at it", u.worst(0, 1), 0);
        // Two AFTERNOONS: 74, then 24, of the SEED as it has become.
        Check.granted(u, "afternoons, the second", u.afternoons(1, 0, 2), 1);
        // Each call begins with its own SEED.
        Check.granted(u, "worst(65536, 1) behind it", u.worst(65536, 1), 1);
        Check.granted(u, "worst(0, 1) behind it", u.worst(0, 1), 0);
        Check.granted(u, "afternoons(1, 65536, 1)", u.afternoons(1, 65536, 1), 1);
        Check.granted(u, "worst(0, 1) behind afternoons", u.worst(0, 1), 0);
        Check.granted(u, "afternoons(1, 0, 1)", u.afternoons(1, 0, 1), 0);
        // The least and the greatest of both at once.
        for (int seed : new int[] {0, 65536}) {
            Check.granted(u, "afternoons(1, " + seed + ", 0)", u.afternoons(1, seed, 0), 0);
            Check.granted(u, "worst(" + seed + ", 0)", u.worst(seed, 0), 0);
        }
        Check.granted(u, "afternoons(1, 65536, 90)", u.afternoons(1, 65536, 90), 90);
        Check.granted(u, "afternoons(1, 0, 90)", u.afternoons(1, 0, 90), below(0, 90, 74));
        // SEED 65535 becomes 75 times that and 74, which is 65537 times 74 and 65461.
        Check.granted(u, "afternoons(1, 65535, 1)", u.afternoons(1, 65535, 1), 1);
        by(0, 0);
        by(100, 90);
    }
}
