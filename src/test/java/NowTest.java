/** Promises 6 to 13: person, post, time, sinkers, first, under, lost, worstMinute. */
public final class NowTest {
    private NowTest() {
    }

    public static void main(String[] args) {
        withoutBeach();
        usual();
        kindsAndNear();
        minutes();
        earliestAndLatest();
        heat();
        Check.finish();
    }

    private static void withoutBeach() {
        ShoreGuards x = new ShoreGuards();
        Check.refused(x, "person(0, 0)", x.person(0, 0), -1, 1);
        Check.refused(x, "post(0, 0)", x.post(0, 0), -1, 1);
        Check.refused(x, "time(0, 0)", x.time(0, 0), -1, 1);
        Check.refused(x, "sinkers()", x.sinkers(), -1, 1);
        Check.refused(x, "first()", x.first(), -1, 1);
        Check.refused(x, "under(0)", x.under(0), -1, 1);
        Check.refused(x, "under(-1)", x.under(-1), -1, 1);
        Check.refused(x, "lost(0)", x.lost(0), -1, 1);
        Check.refused(x, "lost(201)", x.lost(201), -1, 1);
        Check.refused(x, "worstMinute()", x.worstMinute(), -1, 1);
    }

    private static void usual() {
        ShoreGuards x = Check.beachOf(Check.USUAL);
        long[][] person = {
            {0, 10, 9, 50, 7, 2, 0, 0, 2},
            {1, 13, 4, 100, 5, 1, 0, 0, 4},
            {2, 30, 9, 0, 2, 0, 0, 0, 0},
            {3, 50, 5, 20, 3, 0, 0, 0, 0}};
        for (int p = 0; p < 4; p++) {
            for (int what = 0; what <= 8; what++) {
                Check.granted(x, "person(" + p + ", " + what + ")", x.person(p, what), person[p][what]);
            }
            Check.refused(x, "person(" + p + ", -1)", x.person(p, -1), -1, 1);
            Check.refused(x, "person(" + p + ", 9)", x.person(p, 9), -1, 1);
        }
        Check.refused(x, "person(-1, 0)", x.person(-1, 0), -1, 1);
        Check.refused(x, "person(4, 0)", x.person(4, 0), -1, 1);
        long[][] post = {{12, 4, 1, 3}, {40, 8, 0, 0}};
        for (int q = 0; q < 2; q++) {
            for (int what = 0; what <= 3; what++) {
                Check.granted(x, "post(" + q + ", " + what + ")", x.post(q, what), post[q][what]);
            }
            Check.refused(x, "post(" + q + ", 4)", x.post(q, 4), -1, 1);
            Check.refused(x, "post(" + q + ", -1)", x.post(q, -1), -1, 1);
        }
        Check.refused(x, "post(2, 0)", x.post(2, 0), -1, 1);
        Check.refused(x, "post(-1, 0)", x.post(-1, 0), -1, 1);
        long[][] time = {{6, 5, 22, 42}, {38, 35, 18, 18}};
        for (int q = 0; q < 2; q++) {
            for (int p = 0; p < 4; p++) {
                Check.granted(x, "time(" + q + ", " + p + ")", x.time(q, p), time[q][p]);
            }
        }
        Check.refused(x, "time(2, 0)", x.time(2, 0), -1, 1);
        Check.refused(x, "time(-1, 0)", x.time(-1, 0), -1, 1);
        Check.refused(x, "time(0, 4)", x.time(0, 4), -1, 1);
        Check.refused(x, "time(0, -1)", x.time(0, -1), -1, 1);
        Check.granted(x, "sinkers()", x.sinkers(), 15);
        Check.granted(x, "first()", x.first(), 2);
    }

    private static void kindsAndNear() {
        // Places 5 apart are NEAR, 6 apart aren't; heat never makes a minute less than 0.
        ShoreGuards x = Check.beachOf("beach limit 9 heat 4 slips 0;person a talker at 20 thought 1 by 1;"
            + "person b talker at 25 thought 1 by 1;person c child at 31 thought 9 by 1;"
            + "person d child at 26 thought 9 by 1;person e sleeper at 80 thought 15 by 1;"
            + "person f reader at 80 thought 3 by 1;post q at 22 off 5");
        long[] near = {2, 9, 8, 6, 32, 16};
        long[] sinks = {0, 3, -2, -2, 3, 0};
        for (int p = 0; p < 6; p++) {
            Check.due("person(" + p + ", 5)", x.person(p, 5), near[p]);
            Check.due("person(" + p + ", 4)", x.person(p, 4), sinks[p]);
        }
        Check.granted(x, "sinkers()", x.sinkers(), 1 + 2 + 16 + 32);
        Check.granted(x, "first()", x.first(), 0);
        // A post REACHES whom it reaches, whether they SINK or not: TIME 9 is, 10 isn't enough.
        Check.due("post(0, 3)", x.post(0, 3), 1 + 2 + 8);
        Check.due("time(0, 3)", x.time(0, 3), 9);
        // Whoever sits NEAR is so where he sits NOW.
        Check.due("seat(3, 70)", x.seat(3, 70), 5);
        Check.due("person(2, 4)", x.person(2, 4), 5);
        Check.due("person(1, 5)", x.person(1, 5), 1);
        Check.due("person(1, 4)", x.person(1, 4), 0);
        Check.due("post(0, 3)", x.post(0, 3), 1 + 2);
        Check.due("person(3, 1)", x.person(3, 1), 70);
    }

    /** Six talkers side by side, the last who SINK at all. */
    private static void earliestAndLatest() {
        StringBuilder text = new StringBuilder("beach limit 60 heat 0 slips 0");
        for (char name = 'a'; name <= 'f'; name++) {
            text.append(";person ").append(name).append(" talker at 50 thought 99 by 1");
        }
        ShoreGuards x = Check.beachOf(text.toString());
        for (int p = 0; p < 6; p++) {
            Check.due("person(" + p + ", 5)", x.person(p, 5), 63 - (1 << p));
            Check.due("person(" + p + ", 4)", x.person(p, 4), 114);
        }
        Check.granted(x, "under(113)", x.under(113), 0);
        Check.granted(x, "under(114)", x.under(114), 63);
        Check.granted(x, "under(173)", x.under(173), 63);
        Check.granted(x, "under(174)", x.under(174), 0);
        Check.granted(x, "lost(173)", x.lost(173), 0);
        Check.granted(x, "lost(174)", x.lost(174), 63);
        Check.granted(x, "worstMinute()", x.worstMinute(), 114);
        Check.granted(x, "flag(6)", x.flag(6), 114);
        Check.granted(x, "first()", x.first(), 0);
        // Never two at once: the first minute of the first one.
        ShoreGuards z = Check.beachOf("beach limit 3 heat 0 slips 0;person a reader at 0 thought 40 by 1;person b reader at 50 thought 7 by 1");
        Check.granted(z, "worstMinute(), one at a time", z.worstMinute(), 7);
        // As many at 0 as ever behind it: the first minute is 0.
        ShoreGuards w = Check.beachOf("beach limit 9 heat 0 slips 0;person a reader at 0 thought 0 by 1;person b reader at 50 thought 20 by 1");
        Check.granted(w, "worstMinute(), at once", w.worstMinute(), 0);
        // The least limit: UNDER for one minute alone, at once.
        ShoreGuards y = Check.beachOf("beach limit 1 heat 9 slips 0;person a reader at 0 thought 0 by 1");
        Check.granted(y, "under(0)", y.under(0), 1);
        Check.granted(y, "under(1)", y.under(1), 0);
        Check.granted(y, "lost(0)", y.lost(0), 0);
        Check.granted(y, "lost(1)", y.lost(1), 1);
        Check.granted(y, "worstMinute()", y.worstMinute(), 0);
        Check.granted(y, "person(0, 7)", y.person(0, 7), 1);
        Check.granted(y, "minute(1)", y.minute(1), 0);
        Check.granted(y, "person(0, 7)", y.person(0, 7), 2);
    }

    /** The heat is taken off last, and never below 0. */
    private static void heat() {
        String[] kinds = {"reader", "talker", "sleeper", "child"};
        int[] thoughts = {0, 1, 8, 9, 10, 17, 18, 19, 20, 21, 99};
        for (int heat = 0; heat <= 9; heat += 9) {
            for (String kind : kinds) {
                for (int thought : thoughts) {
                    ShoreGuards x = Check.beachOf("beach limit 5 heat " + heat + " slips 0;person a " + kind + " at 0 thought " + thought + " by 1");
                    int due = (kind.equals("sleeper") ? thought / 2 : thought) - heat;
                    Check.due(kind + " of " + thought + ", heat " + heat, x.person(0, 4), due < 0 ? 0 : due);
                }
            }
        }
        // A talker's company counts ahead of the heat: 0 and 3 less 9 is 0, 0 and 12 less 9 is 3.
        ShoreGuards x = Check.beachOf("beach limit 5 heat 9 slips 0;person a talker at 5 thought 0 by 1;person b reader at 0 thought 0 by 1;"
            + "person c reader at 10 thought 0 by 1;person d reader at 5 thought 0 by 1;person e reader at 6 thought 0 by 1;person f reader at 11 thought 0 by 1");
        Check.due("person(0, 5)", x.person(0, 5), 2 + 4 + 8 + 16);
        Check.due("person(0, 4)", x.person(0, 4), 3);
        x.seat(1, 99);
        Check.due("person(0, 4)", x.person(0, 4), 0);
    }

    private static void minutes() {
        ShoreGuards x = Check.beachOf("beach limit 10 heat 0 slips 0;person a reader at 1 thought 20 by 1;"
            + "person b reader at 2 thought 29 by 1;person c reader at 3 thought 30 by 1;person d reader at 50 thought 20 by 1;post q at 1 off 1;manned q");
        Check.granted(x, "under(19)", x.under(19), 0);
        Check.granted(x, "under(20)", x.under(20), 9);
        Check.granted(x, "under(29)", x.under(29), 11);
        Check.granted(x, "under(30)", x.under(30), 6);
        Check.granted(x, "lost(29)", x.lost(29), 0);
        Check.granted(x, "lost(30)", x.lost(30), 9);
        Check.granted(x, "lost(200)", x.lost(200), 15);
        Check.granted(x, "under(200)", x.under(200), 0);
        Check.granted(x, "under(0)", x.under(0), 0);
        Check.granted(x, "lost(0)", x.lost(0), 0);
        for (int minute : new int[] {-1, 201, Integer.MIN_VALUE, Integer.MAX_VALUE}) {
            Check.refused(x, "under(" + minute + ")", x.under(minute), -1, 2);
            Check.refused(x, "lost(" + minute + ")", x.lost(minute), -1, 2);
        }
        Check.granted(x, "worstMinute()", x.worstMinute(), 29);
        Check.granted(x, "first()", x.first(), 0);
        // How he is NOW follows the minute.
        x.minute(29);
        Check.due("person(0, 7)", x.person(0, 7), 1);
        Check.due("person(2, 7)", x.person(2, 7), 0);
        Check.due("lift(0)", x.lift(0), 0);
        Check.due("person(0, 6)", x.person(0, 6), 1);
        Check.due("person(0, 7) LIFTED", x.person(0, 7), 0);
        Check.due("person(0, 4) LIFTED", x.person(0, 4), -2);
        Check.granted(x, "sinkers()", x.sinkers(), 14);
        Check.granted(x, "first()", x.first(), 3);
        x.minute(1);
        Check.due("person(3, 7)", x.person(3, 7), 2);
        Check.due("person(2, 7)", x.person(2, 7), 1);
        // Nobody UNDER at all: the first minute.
        ShoreGuards y = Check.beachOf("beach limit 5 heat 0 slips 0;person a child at 1 thought 7 by 1;person b child at 1 thought 7 by 1");
        Check.granted(y, "worstMinute()", y.worstMinute(), 0);
        Check.granted(y, "first()", y.first(), -2);
        Check.granted(y, "sinkers()", y.sinkers(), 0);
    }
}
