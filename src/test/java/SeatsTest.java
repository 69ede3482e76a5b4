/** Promises 25 to 27: seats, seatOf, company. */
public final class SeatsTest {
    private SeatsTest() {
    }

    public static void main(String[] args) {
        wrongInputs();
        seats();
        company();
        Check.finish();
    }

    private static void wrongInputs() {
        ShoreGuards x = new ShoreGuards();
        Check.refused(x, "seats()", x.seats(), -1, 1);
        Check.refused(x, "seatOf(0)", x.seatOf(0), -1, 1);
        Check.refused(x, "company(0)", x.company(0), -1, 1);
        ShoreGuards y = Check.beachOf(Check.USUAL);
        for (int p : new int[] {-1, 4, Integer.MIN_VALUE, Integer.MAX_VALUE}) {
            Check.refused(y, "seatOf(" + p + ")", y.seatOf(p), -1, 1);
            Check.refused(y, "company(" + p + ")", y.company(p), -1, 1);
        }
    }

    private static void places(ShoreGuards x, String name, int unreached, int... places) {
        Check.granted(x, name + ": seats()", x.seats(), unreached);
        for (int p = 0; p < places.length; p++) {
            Check.granted(x, name + ": seatOf(" + p + ")", x.seatOf(p), places[p]);
        }
    }

    private static void seats() {
        // The child is best NEAR one of those far off, the reader at the place that is REACHED.
        ShoreGuards x = Check.beachOf("beach limit 5 heat 0 slips 0;person a child at 10 thought 1 by 1;"
            + "person b reader at 50 thought 1 by 1;person c reader at 54 thought 1 by 1;post s at 10 off 5;manned s");
        places(x, "child far off", 1, 50, 10, 54);
        Check.due("place NOW stays", x.person(0, 1), 10);
        Check.due("size(9)", x.size(9), 0);
        // None manned: a post that isn't REACHES nobody.
        x.leave(0);
        places(x, "none manned", 2, 50, 10, 54);
        // By changing about nothing is won: all stay.
        ShoreGuards y = Check.beachOf("beach limit 5 heat 0 slips 0;person a reader at 10 thought 1 by 1;person b reader at 50 thought 1 by 1;post s at 50 off 5;manned s");
        places(y, "readers", 1, 10, 50);
        // One LIFTED takes the place that isn't REACHED.
        ShoreGuards z = Check.beachOf("beach limit 5 heat 0 slips 0;person a reader at 50 thought 0 by 1;person b reader at 10 thought 0 by 1;"
            + "post s at 50 off 5;manned s");
        places(z, "ahead of lifting", 1, 50, 10);
        z.lift(0);
        places(z, "behind lifting", 0, 10, 50);
        // Of like ones the first by people: a stays, if b and c can change about.
        ShoreGuards w = Check.beachOf("beach limit 5 heat 0 slips 0;person a reader at 30 thought 0 by 1;person b child at 10 thought 0 by 1;"
            + "person c reader at 50 thought 0 by 1;person d reader at 52 thought 0 by 1;post s at 10 off 5;post t at 30 off 5;manned s;manned t");
        places(w, "b and c", 1, 30, 50, 10, 52);
        // seatOf() without seats(), and anew behind an act.
        ShoreGuards v = Check.beachOf("beach limit 5 heat 0 slips 0;person a child at 10 thought 1 by 1;"
            + "person b reader at 50 thought 1 by 1;person c reader at 54 thought 1 by 1;post s at 10 off 5;manned s");
        Check.granted(v, "seatOf(0) as the first call", v.seatOf(0), 50);
        v.seat(0, 52);
        Check.granted(v, "seatOf(0) behind an act", v.seatOf(0), 52);
        Check.granted(v, "seatOf(1) behind an act", v.seatOf(1), 50);
        // Who was LIFTED may sit anywhere, at the first one's place too.
        ShoreGuards u = Check.beachOf("beach limit 5 heat 0 slips 0;person a reader at 10 thought 0 by 1;person b reader at 50 thought 0 by 1;"
            + "post s at 50 off 5;manned s");
        u.lift(1);
        places(u, "b LIFTED", 0, 50, 10);
        // All in one place: as they sit.
        ShoreGuards t = Check.beachOf("beach limit 5 heat 0 slips 0;person a reader at 0 thought 0 by 1;person b reader at 0 thought 0 by 1;person c reader at 99 thought 0 by 1");
        places(t, "no post", 3, 0, 0, 99);
    }

    private static void company() {
        ShoreGuards x = Check.beachOf(Check.USUAL);
        Check.granted(x, "company(0)", x.company(0), 45);
        Check.granted(x, "company(3)", x.company(3), 5);
        Check.due("place NOW stays", x.person(3, 1), 50);
        Check.granted(x, "sinkers() stay", x.sinkers(), 15);
        // Two children: a seat NEAR both keeps both.
        ShoreGuards y = Check.beachOf("beach limit 5 heat 0 slips 0;person a child at 10 thought 1 by 1;person b child at 18 thought 1 by 1;person c reader at 99 thought 1 by 1");
        Check.granted(y, "company(2)", y.company(2), 13);
        // The child himself finds company by going to the other one, which helps both.
        Check.granted(y, "company(0)", y.company(0), 13);
        // No matter at all: the least place.
        ShoreGuards z = Check.beachOf("beach limit 5 heat 0 slips 0;person a reader at 10 thought 1 by 1");
        Check.granted(z, "company(0), alone", z.company(0), 0);
        // Six people, five of whom SINK wherever they sit.
        StringBuilder six = new StringBuilder("beach limit 5 heat 0 slips 0;person a child at 50 thought 1 by 1");
        for (char name = 'b'; name <= 'f'; name++) {
            six.append(";person ").append(name).append(" reader at 10 thought 1 by 1");
        }
        ShoreGuards v = Check.beachOf(six.toString());
        Check.granted(v, "company(5) of six", v.company(5), 45);
        Check.granted(v, "company(0) of six", v.company(0), 5);
        // The last place is one.
        ShoreGuards w = Check.beachOf("beach limit 5 heat 0 slips 0;person a child at 99 thought 1 by 1;person b reader at 0 thought 1 by 1");
        Check.granted(w, "company(1)", w.company(1), 94);
    }
}
