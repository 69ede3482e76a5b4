/** Promises 14 to 20: reached, nearest, cover, covers, bestPost, bestPlace, limitFor. */
public final class PostsTest {
    /** Readers at 10, 20, 30 and a child who never SINKS at 32; limit 10. */
    private static final String FOUR = "beach limit 10 heat 0 slips 0;person a reader at 10 thought 1 by 1;"
        + "person b reader at 20 thought 2 by 1;person c reader at 30 thought 3 by 1;person d child at 32 thought 4 by 1";

    private PostsTest() {
    }

    public static void main(String[] args) {
        withoutBeach();
        reached();
        covering();
        bestPost();
        bestPlace();
        limitFor();
        Check.finish();
    }

    private static void withoutBeach() {
        ShoreGuards x = new ShoreGuards();
        Check.refused(x, "reached()", x.reached(), -1, 1);
        Check.refused(x, "nearest(0)", x.nearest(0), -1, 1);
        Check.refused(x, "cover()", x.cover(), -1, 1);
        Check.refused(x, "covers()", x.covers(), -1, 1);
        Check.refused(x, "bestPost()", x.bestPost(), -1, 1);
        Check.refused(x, "bestPlace(0)", x.bestPlace(0), -1, 1);
        Check.refused(x, "limitFor()", x.limitFor(), -1, 1);
    }

    private static void reached() {
        ShoreGuards x = Check.beachOf(FOUR + ";post s at 15 off 5;post t at 31 off 2;post u at 15 off 5;manned t");
        Check.granted(x, "reached()", x.reached(), 4);
        Check.granted(x, "nearest(0)", x.nearest(0), 1);
        Check.due("man(2)", x.man(2), true);
        Check.granted(x, "reached()", x.reached(), 7);
        Check.granted(x, "nearest(0)", x.nearest(0), 2);
        Check.due("man(0)", x.man(0), true);
        Check.granted(x, "nearest(0), the first of like ones", x.nearest(0), 0);
        // 10 to b by both of off 5, 13 by t.
        Check.granted(x, "nearest(1)", x.nearest(1), 0);
        Check.granted(x, "nearest(3)", x.nearest(3), 1);
        Check.refused(x, "nearest(4)", x.nearest(4), -1, 1);
        Check.refused(x, "nearest(-1)", x.nearest(-1), -1, 1);
        x.leave(0);
        x.leave(1);
        x.leave(2);
        Check.granted(x, "nearest(0), none manned", x.nearest(0), -2);
        Check.granted(x, "reached(), none manned", x.reached(), 0);
    }

    private static void covering() {
        // s and u REACH a, b; t REACHES c; v REACHES b, c.
        ShoreGuards x = Check.beachOf(FOUR + ";post s at 15 off 5;post t at 31 off 2;post u at 15 off 5;post v at 25 off 5");
        Check.granted(x, "cover()", x.cover(), 3);
        // One of s, u and one of t, v at least.
        Check.granted(x, "covers()", x.covers(), 9);
        ShoreGuards y = Check.beachOf(FOUR + ";post s at 15 off 5;post t at 99 off 2");
        Check.granted(y, "cover(), all aren't enough", y.cover(), -2);
        Check.granted(y, "covers(), all aren't enough", y.covers(), 0);
        ShoreGuards z = Check.beachOf("beach limit 20 heat 0 slips 0;person a reader at 10 thought 1 by 1;"
            + "person b reader at 20 thought 2 by 1;post s at 10 off 15;post t at 20 off 15;post u at 15 off 15");
        Check.granted(z, "cover(), one of all", z.cover(), 4);
        Check.granted(z, "covers(), one of all", z.covers(), 5);
        // Each post REACHES one alone: all five are needed; and one LIFTED needs none.
        ShoreGuards five = Check.beachOf("beach limit 5 heat 0 slips 0;person a reader at 10 thought 0 by 1;person b reader at 20 thought 0 by 1;"
            + "person c reader at 30 thought 0 by 1;person d reader at 40 thought 0 by 1;person e reader at 50 thought 0 by 1;"
            + "post p at 10 off 5;post q at 20 off 5;post r at 30 off 5;post s at 40 off 5;post t at 50 off 5;manned r");
        Check.granted(five, "cover(), all five", five.cover(), 31);
        Check.granted(five, "covers(), all five", five.covers(), 1);
        five.lift(2);
        Check.granted(five, "cover(), c LIFTED", five.cover(), 27);
        Check.granted(five, "covers(), c LIFTED", five.covers(), 2);
        ShoreGuards w = Check.beachOf("beach limit 20 heat 0 slips 0;person a child at 10 thought 1 by 1;"
            + "person b child at 12 thought 2 by 1;post s at 10 off 15;post t at 20 off 15");
        Check.granted(w, "cover(), nobody SINKS", w.cover(), 0);
        Check.granted(w, "covers(), nobody SINKS", w.covers(), 4);
    }

    private static void bestPost() {
        ShoreGuards x = Check.beachOf(FOUR + ";post s at 31 off 2;post t at 15 off 5;post u at 15 off 5;post v at 32 off 1");
        Check.granted(x, "bestPost()", x.bestPost(), 1);
        x.man(1);
        Check.granted(x, "bestPost() behind man(1)", x.bestPost(), 0);
        x.man(3);
        Check.granted(x, "bestPost(), none more", x.bestPost(), -2);
        x.man(0);
        x.man(2);
        Check.granted(x, "bestPost(), all manned", x.bestPost(), -2);
        ShoreGuards y = Check.beachOf(FOUR);
        Check.granted(y, "bestPost(), no posts", y.bestPost(), -2);
        // More counts, not all: t REACHES two, but one of them is REACHED already.
        ShoreGuards z = Check.beachOf(FOUR + ";post s at 20 off 9;post t at 15 off 5;post u at 30 off 9;manned s");
        Check.granted(z, "bestPost(), of like ones", z.bestPost(), 1);
    }

    private static void bestPlace() {
        ShoreGuards x = Check.beachOf(FOUR);
        Check.granted(x, "bestPlace(5)", x.bestPlace(5), 15);
        Check.granted(x, "bestPlace(6)", x.bestPlace(6), 6);
        Check.granted(x, "bestPlace(10)", x.bestPlace(10), 10);
        Check.granted(x, "bestPlace(11), none REACHED", x.bestPlace(11), 0);
        Check.granted(x, "bestPlace(1)", x.bestPlace(1), 11);
        Check.granted(x, "bestPlace(40)", x.bestPlace(40), 0);
        for (int off : new int[] {0, 41, -1, Integer.MIN_VALUE, Integer.MAX_VALUE}) {
            Check.refused(x, "bestPlace(" + off + ")", x.bestPlace(off), -1, 2);
        }
        // Only one who SINKS matters: the child at 32 never does.
        x.seat(0, 99);
        x.seat(1, 90);
        Check.granted(x, "bestPlace(9)", x.bestPlace(9), 29);
        Check.granted(x, "bestPlace(5) at the end", x.bestPlace(5), 94);
        ShoreGuards z = Check.beachOf("beach limit 10 heat 0 slips 0;person a reader at 3 thought 1 by 1");
        Check.granted(z, "bestPlace(1), the first place", z.bestPlace(1), 0);
        Check.granted(z, "bestPlace(7), as the limit is from the first place", z.bestPlace(7), 0);
        Check.granted(z, "bestPlace(8), one too far from the first place", z.bestPlace(8), 1);
        ShoreGuards y = Check.beachOf("beach limit 10 heat 0 slips 0;person a reader at 99 thought 1 by 1");
        Check.granted(y, "bestPlace(10), the last place", y.bestPlace(10), 99);
    }

    private static void limitFor() {
        ShoreGuards x = Check.beachOf(FOUR + ";post s at 10 off 3;post t at 28 off 4;manned s");
        Check.granted(x, "limitFor()", x.limitFor(), 23);
        x.man(1);
        Check.granted(x, "limitFor(), both manned", x.limitFor(), 12);
        x.leave(0);
        x.leave(1);
        Check.granted(x, "limitFor(), none manned", x.limitFor(), -2);
        ShoreGuards y = Check.beachOf("beach limit 20 heat 0 slips 0;person a child at 10 thought 1 by 1;"
            + "person b child at 12 thought 2 by 1;post s at 90 off 15");
        Check.granted(y, "limitFor(), nobody SINKS, none manned", y.limitFor(), -2);
        y.man(0);
        Check.granted(y, "limitFor(), nobody SINKS", y.limitFor(), 1);
        // The least TIME there is.
        ShoreGuards w = Check.beachOf("beach limit 60 heat 0 slips 0;person a reader at 0 thought 1 by 1;post s at 0 off 1;manned s");
        Check.granted(w, "limitFor(), the nearest", w.limitFor(), 1);
        Check.due("seat(0, 1)", w.seat(0, 1), 1);
        Check.granted(w, "limitFor(), one place apart", w.limitFor(), 2);
        ShoreGuards z = Check.beachOf("beach limit 1 heat 0 slips 0;person a reader at 0 thought 1 by 1;post s at 99 off 40;manned s");
        Check.granted(z, "limitFor(), the furthest", z.limitFor(), 139);
    }
}
