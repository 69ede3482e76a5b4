/** Promises 21 to 24: alone, aloneAt, aloneFree, bestAlone. */
public final class AloneTest {
    private AloneTest() {
    }

    public static void main(String[] args) {
        wrongInputs();
        order();
        edges();
        fromNow();
        best();
        ownSearch();
        allSix();
        Check.finish();
    }

    private static void row(ShoreGuards x, String name, int q, int free, int... people) {
        Check.granted(x, name + ": alone", x.alone(q), people.length);
        for (int i = 0; i < people.length; i++) {
            Check.granted(x, name + ": aloneAt " + i, x.aloneAt(q, i), people[i]);
        }
        Check.refused(x, name + ": aloneAt behind all", x.aloneAt(q, people.length), -1, 1);
        Check.refused(x, name + ": aloneAt -1", x.aloneAt(q, -1), -1, 1);
        Check.granted(x, name + ": aloneFree", x.aloneFree(q), free);
    }

    private static void wrongInputs() {
        ShoreGuards x = new ShoreGuards();
        Check.refused(x, "alone(0)", x.alone(0), -1, 1);
        Check.refused(x, "aloneAt(0, 0)", x.aloneAt(0, 0), -1, 1);
        Check.refused(x, "aloneFree(0)", x.aloneFree(0), -1, 1);
        Check.refused(x, "bestAlone()", x.bestAlone(), -1, 1);
        ShoreGuards y = Check.beachOf(Check.USUAL);
        for (int q : new int[] {-1, 2, Integer.MIN_VALUE, Integer.MAX_VALUE}) {
            Check.refused(y, "alone(" + q + ")", y.alone(q), -1, 1);
            Check.refused(y, "aloneAt(" + q + ", 0)", y.aloneAt(q, 0), -1, 1);
            Check.refused(y, "aloneFree(" + q + ")", y.aloneFree(q), -1, 1);
        }
        row(y, "usual x", 0, 19, 0);
        row(y, "usual y", 1, 0);
    }

    private static void order() {
        // Both only if b, who SINKS first, comes first: there at 2 + 3, back at 8, at a by 11.
        ShoreGuards x = Check.beachOf("beach limit 6 heat 0 slips 0;person a reader at 12 thought 5 by 1;"
            + "person b reader at 8 thought 2 by 1;post s at 10 off 1");
        row(x, "b ahead", 0, 11 + 3, 1, 0);
        // In any order: the first row by people, though another one is free earlier.
        ShoreGuards y = Check.beachOf("beach limit 60 heat 0 slips 0;person a reader at 12 thought 9 by 1;"
            + "person b reader at 8 thought 2 by 1;person c reader at 10 thought 0 by 1;post s at 10 off 1");
        row(y, "any order", 0, 9 + 6 + 6 + 2, 0, 1, 2);
        // Two at most, whichever: the first row.
        ShoreGuards z = Check.beachOf("beach limit 10 heat 0 slips 0;person a reader at 10 thought 0 by 1;"
            + "person b reader at 10 thought 0 by 1;person c reader at 10 thought 0 by 1;post s at 10 off 3");
        row(z, "two of three", 0, 12, 0, 1);
    }

    private static void edges() {
        // There as the limit ends is in time; a minute later isn't.
        ShoreGuards x = Check.beachOf("beach limit 6 heat 0 slips 0;person a reader at 10 thought 5 by 1;post s at 10 off 6;post t at 11 off 6");
        row(x, "as the limit ends", 0, 5 + 6 + 6, 0);
        row(x, "behind the limit", 1, 0);
        // A child with company never SINKS and is no matter.
        ShoreGuards y = Check.beachOf("beach limit 6 heat 0 slips 0;person a child at 10 thought 5 by 1;person b talker at 11 thought 5 by 1;post s at 10 off 1");
        row(y, "no child", 0, 8 + 2 + 2, 1);
    }

    private static void fromNow() {
        ShoreGuards x = Check.beachOf("beach limit 6 heat 0 slips 0;person a reader at 10 thought 5 by 1;"
            + "person b reader at 10 thought 40 by 1;post s at 10 off 4;manned s");
        row(x, "at first", 0, 48, 0, 1);
        x.minute(7);
        row(x, "at 7", 0, 48, 0, 1);
        x.minute(1);
        row(x, "at 8, too late for a", 0, 48, 1);
        x.minute(34);
        row(x, "at 42", 0, 50, 1);
        Check.due("lift(1)", x.lift(1), 0);
        row(x, "b LIFTED", 0, 42);
    }

    /** Each call is about its own post, whatever was asked before. */
    private static void ownSearch() {
        String text = "beach limit 20 heat 0 slips 0;person a reader at 10 thought 0 by 1;person b reader at 40 thought 9 by 1;"
            + "person c reader at 42 thought 30 by 1;post s at 10 off 4;post t at 41 off 2";
        ShoreGuards x = Check.beachOf(text);
        Check.granted(x, "aloneAt(1, 1) as the first call", x.aloneAt(1, 1), 2);
        Check.granted(x, "aloneAt(0, 0) behind aloneAt(1, 1)", x.aloneAt(0, 0), 0);
        Check.granted(x, "aloneFree(1) behind aloneAt(0, 0)", x.aloneFree(1), 36);
        Check.granted(x, "aloneFree(0) behind aloneFree(1)", x.aloneFree(0), 8);
        Check.granted(x, "bestAlone()", x.bestAlone(), 1);
        Check.granted(x, "aloneAt(0, 0) behind bestAlone()", x.aloneAt(0, 0), 0);
        Check.refused(x, "aloneAt(0, 1)", x.aloneAt(0, 1), -1, 1);
        // ALONE is asked anew behind an act.
        Check.due("minute(30)", x.minute(30), 4);
        Check.granted(x, "aloneAt(1, 0) at 30", x.aloneAt(1, 0), 2);
        Check.granted(x, "aloneFree(0) at 30", x.aloneFree(0), 30);
        ShoreGuards y = Check.beachOf(text);
        Check.granted(y, "aloneFree(1) as the first call", y.aloneFree(1), 36);
    }

    private static void allSix() {
        StringBuilder text = new StringBuilder("beach limit 60 heat 0 slips 0;post s at 10 off 1");
        for (char name = 'a'; name <= 'f'; name++) {
            text.append(";person ").append(name).append(" reader at 10 thought 0 by 1");
        }
        ShoreGuards x = Check.beachOf(text.toString());
        row(x, "six", 0, 12, 0, 1, 2, 3, 4, 5);
        x.seat(0, 69);
        // To a it is 60 there: only as the first one, and then nobody else is in time.
        row(x, "five", 0, 10, 1, 2, 3, 4, 5);
    }

    private static void best() {
        String people = "beach limit 10 heat 0 slips 0;person a reader at 10 thought 0 by 1;person b reader at 20 thought 9 by 1";
        ShoreGuards x = Check.beachOf(people + ";post s at 10 off 9;post t at 12 off 1;post u at 12 off 1");
        Check.granted(x, "bestAlone()", x.bestAlone(), 1);
        ShoreGuards y = Check.beachOf(people);
        Check.granted(y, "bestAlone(), no posts", y.bestAlone(), -2);
        ShoreGuards z = Check.beachOf(people + ";post s at 90 off 9;post t at 92 off 1");
        Check.granted(z, "bestAlone(), nobody from any", z.bestAlone(), 0);
    }
}
