/** Every call where nobody SINKS, where there is no post, and where none is manned. */
public final class NobodyTest {
    /** Two children side by side. */
    private static final String CHILDREN = "beach limit 10 heat 0 slips 0;person a child at 10 thought 1 by 100;person b child at 12 thought 2 by 100";
    /** Two readers who do SINK, at 1 and 2. */
    private static final String READERS = "beach limit 10 heat 0 slips 0;person a reader at 10 thought 1 by 100;person b reader at 12 thought 2 by 50";
    private static final String POSTS = ";post s at 10 off 3;post t at 12 off 2";

    private NobodyTest() {
    }

    public static void main(String[] args) {
        nobodySinksMannedOrNot();
        nobodySinksNoPost();
        noPost();
        noneManned();
        allLifted();
        onePerson();
        Check.finish();
    }

    private static void share(ShoreGuards x, String call, long upper, long lower, long dueUpper, long dueLower) {
        Check.granted(x, call + " upper", upper, dueUpper);
        Check.granted(x, call + " lower", lower, dueLower);
    }

    /** What is so wherever nobody SINKS. */
    private static void nobodySinks(ShoreGuards x, int people) {
        Check.granted(x, "sinkers()", x.sinkers(), 0);
        Check.granted(x, "first()", x.first(), -2);
        for (int minute = 0; minute <= 200; minute += 50) {
            Check.granted(x, "under()", x.under(minute), 0);
            Check.granted(x, "lost()", x.lost(minute), 0);
        }
        Check.granted(x, "worstMinute()", x.worstMinute(), 0);
        Check.granted(x, "reached()", x.reached(), 0);
        Check.granted(x, "cover()", x.cover(), 0);
        Check.granted(x, "covers()", x.covers(), 1 << x.size(4));
        Check.granted(x, "bestPost()", x.bestPost(), -2);
        Check.granted(x, "bestPlace(1)", x.bestPlace(1), 0);
        Check.granted(x, "bestPlace(40)", x.bestPlace(40), 0);
        for (int q = 0; q < x.size(4); q++) {
            Check.granted(x, "alone()", x.alone(q), 0);
            Check.refused(x, "aloneAt()", x.aloneAt(q, 0), -1, 1);
            Check.granted(x, "aloneFree()", x.aloneFree(q), x.size(8));
        }
        Check.granted(x, "seats()", x.seats(), 0);
        for (int p = 0; p < people; p++) {
            Check.granted(x, "person(p, 4)", x.person(p, 4), -2);
            Check.granted(x, "person(p, 7)", x.person(p, 7), 0);
            Check.granted(x, "seatOf()", x.seatOf(p), x.person(p, 1));
            Check.granted(x, "afternoons()", x.afternoons(p, 7, 90), 0);
            Check.refused(x, "lift()", x.lift(p), -1, 5);
        }
        for (int many = 1; many <= 6; many++) {
            Check.granted(x, "flag()", x.flag(many), -2);
        }
        share(x, "safe", x.safe(false), x.safe(true), 1, 1);
        share(x, "mean", x.mean(false), x.mean(true), 0, 1);
        share(x, "sinking(0)", x.sinking(0, false), x.sinking(0, true), 1, 1);
        for (int many = 1; many <= 6; many++) {
            share(x, "sinking", x.sinking(many, false), x.sinking(many, true), 0, 1);
        }
        Check.granted(x, "worst()", x.worst(7, 90), 0);
        Check.due("led(0)", Check.led(x, 0), Check.THREW);
    }

    private static void nobodySinksMannedOrNot() {
        nobodySinks(Check.beachOf(CHILDREN + POSTS), 2);
        nobodySinks(Check.beachOf(CHILDREN + POSTS + ";manned s;manned t"), 2);
        ShoreGuards x = Check.beachOf(CHILDREN + POSTS);
        Check.granted(x, "limitFor(), none manned, though nobody SINKS", x.limitFor(), -2);
        Check.granted(x, "bestAlone(), nobody to be had out", x.bestAlone(), 0);
        Check.granted(x, "nearest(), none manned", x.nearest(0), -2);
        // A post REACHES people whether they SINK or not.
        Check.granted(x, "post(0, 3)", x.post(0, 3), 3);
        Check.due("man(1)", x.man(1), true);
        Check.granted(x, "limitFor(), nobody SINKS", x.limitFor(), 1);
        Check.granted(x, "nearest()", x.nearest(0), 1);
        Check.due("minute(60)", x.minute(60), 0);
        nobodySinks(x, 2);
        // The child who goes away would make both SINK, so the least place NEAR the other one.
        Check.granted(x, "company(0)", x.company(0), 7);
        Check.granted(x, "company(1)", x.company(1), 5);
    }

    private static void nobodySinksNoPost() {
        ShoreGuards x = Check.beachOf(CHILDREN);
        nobodySinks(x, 2);
        Check.granted(x, "limitFor(), no post and nobody SINKS", x.limitFor(), -2);
        Check.granted(x, "bestAlone(), no post", x.bestAlone(), -2);
        Check.granted(x, "covers(), no post: the empty set", x.covers(), 1);
    }

    private static void noPost() {
        ShoreGuards x = Check.beachOf(READERS);
        Check.granted(x, "reached()", x.reached(), 0);
        Check.granted(x, "nearest(0)", x.nearest(0), -2);
        Check.granted(x, "cover()", x.cover(), -2);
        Check.granted(x, "covers()", x.covers(), 0);
        Check.granted(x, "bestPost()", x.bestPost(), -2);
        Check.granted(x, "bestPlace(10)", x.bestPlace(10), 10);
        Check.granted(x, "bestPlace(1)", x.bestPlace(1), 3);
        Check.granted(x, "limitFor()", x.limitFor(), -2);
        Check.granted(x, "bestAlone()", x.bestAlone(), -2);
        Check.granted(x, "seats()", x.seats(), 2);
        Check.granted(x, "seatOf(0)", x.seatOf(0), 10);
        Check.granted(x, "seatOf(1)", x.seatOf(1), 12);
        share(x, "safe", x.safe(false), x.safe(true), 0, 1);
        share(x, "mean", x.mean(false), x.mean(true), 3, 2);
        Check.granted(x, "afternoons(0, 0, 90)", x.afternoons(0, 0, 90), 90);
        Check.due("minute(2)", x.minute(2), 3);
        Check.refused(x, "lift(0)", x.lift(0), -1, 6);
        Check.due("led(1)", Check.led(x, 1), 1);
        Check.due("led(2)", Check.led(x, 2), Check.THREW);
        Check.due("size(4)", x.size(4), 0);
        Check.due("size(5)", x.size(5), 0);
    }

    private static void noneManned() {
        ShoreGuards x = Check.beachOf(READERS + POSTS);
        Check.granted(x, "reached()", x.reached(), 0);
        Check.granted(x, "nearest(0)", x.nearest(0), -2);
        // COVER and ALONE are about all posts, manned or not.
        Check.granted(x, "cover()", x.cover(), 1);
        Check.granted(x, "covers()", x.covers(), 3);
        Check.granted(x, "bestPost()", x.bestPost(), 0);
        Check.granted(x, "limitFor()", x.limitFor(), -2);
        Check.granted(x, "alone(0), there as the limit ends", x.alone(0), 2);
        Check.granted(x, "alone(1)", x.alone(1), 2);
        Check.granted(x, "bestAlone()", x.bestAlone(), 0);
        Check.granted(x, "seats()", x.seats(), 2);
        share(x, "safe", x.safe(false), x.safe(true), 0, 1);
        share(x, "mean", x.mean(false), x.mean(true), 3, 2);
        Check.granted(x, "afternoons(0, 0, 90)", x.afternoons(0, 0, 90), 90);
        Check.due("minute(1)", x.minute(1), 1);
        Check.refused(x, "lift(0)", x.lift(0), -1, 6);
        Check.refused(x, "leave(0)", x.leave(0), 5);
        // One that is left is as one never manned, however far it REACHES.
        Check.due("man(0)", x.man(0), true);
        Check.granted(x, "limitFor()", x.limitFor(), 5);
        Check.granted(x, "reached()", x.reached(), 3);
        share(x, "safe", x.safe(false), x.safe(true), 1, 1);
        Check.granted(x, "afternoons(0, 0, 90), REACHED", x.afternoons(0, 0, 90), 0);
        Check.granted(x, "worst(0, 90), REACHED or not", x.worst(0, 90), 2);
        Check.granted(x, "seats()", x.seats(), 0);
        Check.due("leave(0)", x.leave(0), true);
        Check.granted(x, "limitFor()", x.limitFor(), -2);
        Check.granted(x, "nearest(0)", x.nearest(0), -2);
        Check.granted(x, "reached()", x.reached(), 0);
    }

    private static void allLifted() {
        ShoreGuards x = Check.beachOf(READERS + POSTS + ";manned s");
        x.minute(2);
        Check.granted(x, "lift(1)", x.lift(1), 0);
        Check.granted(x, "lift(0)", x.lift(0), 0);
        for (int p = 0; p < 2; p++) {
            Check.due("person(p, 6)", x.person(p, 6), 1);
        }
        nobodySinks(x, 2);
        Check.granted(x, "limitFor()", x.limitFor(), 1);
        Check.granted(x, "company(0)", x.company(0), 0);
        Check.granted(x, "seat(0, 99), LIFTED", x.seat(0, 99), -2);
        x.undo();
        x.undo();
        Check.granted(x, "sinkers(), one undone", x.sinkers(), 1);
        Check.due("person(1, 6)", x.person(1, 6), 1);
    }

    private static void onePerson() {
        ShoreGuards x = Check.beachOf("beach limit 1 heat 0 slips 0;person a child at 10 thought 1 by 100");
        Check.granted(x, "sinkers(), alone", x.sinkers(), 1);
        Check.granted(x, "person(0, 5), alone", x.person(0, 5), 0);
        Check.granted(x, "company(0), alone", x.company(0), 0);
        share(x, "odds(0)", x.odds(0, false), x.odds(0, true), 1, 1);
        Check.granted(x, "likeliest()", x.likeliest(), 0);
        Check.granted(x, "suspects()", x.suspects(), 1);
        Check.granted(x, "teach()", x.teach(), 1);
        Check.granted(x, "hears(0)", x.hears(0), 1);
        Check.granted(x, "flag(1)", x.flag(1), 1);
        Check.granted(x, "flag(2)", x.flag(2), -2);
        Check.granted(x, "seats()", x.seats(), 1);
    }
}
