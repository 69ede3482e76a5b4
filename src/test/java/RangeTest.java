/**
 * Every range of the calls: the last value that is taken and the first that is refused on each
 * side, and that a refusal changes nothing.
 */
public final class RangeTest {
    interface Asked {
        long of(ShoreGuards x, int value);
    }

    /** Six people, five posts. Readers far apart, so that each answer tells whom it is about. */
    private static final String FULL = "beach limit 20 heat 0 slips 10;person a reader at 0 thought 0 by 1;"
        + "person b reader at 20 thought 99 by 99;person c reader at 40 thought 60 by 50;person d reader at 60 thought 61 by 50;"
        + "person e reader at 80 thought 62 by 50;person f reader at 99 thought 63 by 50;"
        + "post p at 0 off 1;post q at 20 off 2;post r at 40 off 3;post s at 60 off 4;post t at 99 off 40;"
        + "manned p;manned t;knows a f;knows f a";
    private static final String ONE = "beach limit 20 heat 0 slips 10;person a reader at 7 thought 3 by 1;post p at 9 off 4;manned p";

    private RangeTest() {
    }

    public static void main(String[] args) {
        people();
        posts();
        whats();
        minutes();
        numbers();
        draws();
        acts();
        firstOfTwo();
        Check.finish();
    }

    /** The least and the most are granted with these answers; one beyond each, and the int's ends, refused. */
    private static void range(String text, String call, int[] ends, long[] answers, long refusal, int trouble, Asked asked) {
        for (int k = 0; k < 2; k++) {
            ShoreGuards x = Check.beachOf(text);
            x.undo();
            Check.granted(x, call + " of " + ends[k], asked.of(x, ends[k]), answers[k]);
            Check.due("where() behind it", x.where(), -1);
            Check.due("fault() behind it", x.fault(), 0);
        }
        ShoreGuards x = Check.beachOf(text);
        String before = Calls.snapshot(x);
        for (int value : new int[] {ends[0] - 1, ends[1] + 1, Integer.MIN_VALUE, Integer.MAX_VALUE}) {
            x.sinkers();
            Check.refused(x, call + " of " + value, asked.of(x, value), refusal, trouble);
            Check.due("where() behind it", x.where(), -1);
            Check.due("fault() behind it", x.fault(), 0);
        }
        Check.due("all behind refused " + call, Calls.snapshot(x).equals(before), true);
    }

    private static void person(String call, long[] answers, long answerOfOne, Asked asked) {
        range(FULL, call, new int[] {0, 5}, answers, -1, 1, asked);
        range(ONE, call, new int[] {0, 0}, new long[] {answerOfOne, answerOfOne}, -1, 1, asked);
    }

    private static void people() {
        person("person(.., 1)", new long[] {0, 99}, 7, (x, p) -> x.person(p, 1));
        person("person(.., 8)", new long[] {32, 1}, 0, (x, p) -> x.person(p, 8));
        person("time(0, ..)", new long[] {1, 100}, 6, (x, p) -> x.time(0, p));
        person("nearest", new long[] {0, 4}, 0, (x, p) -> x.nearest(p));
        person("seatOf", new long[] {0, 99}, 7, (x, p) -> x.seatOf(p));
        person("company", new long[] {0, 0}, 0, (x, p) -> x.company(p));
        person("odds(.., false)", new long[] {1, 1}, 1, (x, p) -> x.odds(p, false));
        person("odds(.., true)", new long[] {6, 6}, 1, (x, p) -> x.odds(p, true));
        person("hears", new long[] {33, 33}, 1, (x, p) -> x.hears(p));
        person("afternoons", new long[] {0, 0}, 0, (x, p) -> x.afternoons(p, 0, 0));
        person("seat(.., 50)", new long[] {0, 63}, 3, (x, p) -> x.seat(p, 50));
    }

    private static void post(String call, long[] answers, long answerOfOne, long refusal, Asked asked) {
        range(FULL, call, new int[] {0, 4}, answers, refusal, 1, asked);
        range(ONE, call, new int[] {0, 0}, new long[] {answerOfOne, answerOfOne}, refusal, 1, asked);
    }

    private static void posts() {
        post("post(.., 1)", new long[] {1, 40}, 4, -1, (x, q) -> x.post(q, 1));
        post("time(.., 0)", new long[] {1, 139}, 6, -1, (x, q) -> x.time(q, 0));
        post("alone", new long[] {1, 0}, 1, -1, (x, q) -> x.alone(q));
        post("aloneFree", new long[] {2, 0}, 15, -1, (x, q) -> x.aloneFree(q));
        post("leave", new long[] {1, 1}, 1, 0, (x, q) -> x.leave(q) ? 1 : 0);
        String left = FULL.replace(";manned p;manned t", "");
        range(left, "man", new int[] {0, 4}, new long[] {1, 1}, 0, 1, (x, q) -> x.man(q) ? 1 : 0);
        // No such post: none can be asked for.
        ShoreGuards none = Check.beachOf("beach limit 20 heat 0 slips 10;person a reader at 7 thought 3 by 1");
        for (int q : new int[] {-1, 0, 1}) {
            Check.refused(none, "post of none", none.post(q, 0), -1, 1);
            Check.refused(none, "time of none", none.time(q, 0), -1, 1);
            Check.refused(none, "alone of none", none.alone(q), -1, 1);
            Check.refused(none, "aloneAt of none", none.aloneAt(q, 0), -1, 1);
            Check.refused(none, "aloneFree of none", none.aloneFree(q), -1, 1);
            Check.refused(none, "man of none", none.man(q), 1);
            Check.refused(none, "leave of none", none.leave(q), 1);
        }
    }

    private static void whats() {
        range(FULL, "person(5, ..)", new int[] {0, 8}, new long[] {0, 1}, -1, 1, (x, what) -> x.person(5, what));
        range(FULL, "post(4, ..)", new int[] {0, 3}, new long[] {99, 0}, -1, 1, (x, what) -> x.post(4, what));
        // The row's own length is the range: one, two, none.
        range(FULL, "aloneAt(2, ..)", new int[] {0, 0}, new long[] {2, 2}, -1, 1, (x, i) -> x.aloneAt(2, i));
        String near = "beach limit 60 heat 0 slips 0;person a reader at 5 thought 0 by 1;person b reader at 5 thought 1 by 1;post p at 5 off 1";
        range(near, "aloneAt(0, ..)", new int[] {0, 1}, new long[] {0, 1}, -1, 1, (x, i) -> x.aloneAt(0, i));
        String far = "beach limit 1 heat 0 slips 0;person a reader at 5 thought 0 by 1;post p at 5 off 2";
        ShoreGuards x = Check.beachOf(far);
        for (int i : new int[] {-1, 0, 1}) {
            Check.refused(x, "aloneAt of nobody", x.aloneAt(0, i), -1, 1);
        }
        // size() tells no number.
        ShoreGuards y = Check.beachOf(FULL);
        y.undo();
        Check.due("size(0)", y.size(0), 20);
        Check.due("size(11)", y.size(11), 0);
        for (int what : new int[] {-1, 12, Integer.MIN_VALUE, Integer.MAX_VALUE}) {
            Check.due("size(" + what + ")", y.size(what), -1);
        }
        Check.due("trouble() behind size()", y.trouble(), 6);
        // led() neither: p REACHES a alone, and t nobody.
        for (int i = 0; i < 5; i++) {
            Check.due("led(" + i + ")", Check.led(y, i), i + 1);
        }
        for (int i : new int[] {-1, 5, Integer.MIN_VALUE, Integer.MAX_VALUE}) {
            Check.due("led(" + i + ")", Check.led(y, i), Check.THREW);
        }
        Check.due("trouble() behind led()", y.trouble(), 6);
    }

    private static void minutes() {
        int[] ends = {0, 200};
        range(FULL, "under", ends, new long[] {1, 0}, -1, 2, (x, minute) -> x.under(minute));
        range(FULL, "lost", ends, new long[] {0, 63}, -1, 2, (x, minute) -> x.lost(minute));
        range(FULL, "flag", new int[] {1, 6}, new long[] {0, 99}, -1, 2, (x, many) -> x.flag(many));
    }

    private static void numbers() {
        // From one place off a is REACHED as far as 19 places, b too from place 1 on.
        range(FULL, "bestPlace", new int[] {1, 40}, new long[] {1, 0}, -1, 2, (x, off) -> x.bestPlace(off));
        for (int k = 0; k < 8; k++) {
            boolean guard = (k & 4) != 0;
            boolean wife = (k & 2) != 0;
            boolean ofWife = (k & 1) != 0;
            boolean self = ofWife ? wife : guard;
            boolean other = ofWife ? guard : wife;
            long least = self ? other ? 3 : 1 : other ? 2 : 0;
            long most = self ? other ? 3 : -8 : other ? 2 : 0;
            range(FULL, "looks", new int[] {0, 9}, new long[] {least, most}, -100, 2, (x, fear) -> x.looks(fear, guard, wife, ofWife));
        }
        range(FULL, "rests", new int[] {0, 9}, new long[] {1, 2}, -1, 2, (x, fear) -> x.rests(fear));
        range(FULL, "rest", new int[] {0, 9}, new long[] {11, 0}, -1, 2, (x, fear) -> x.rest(fear));
        range(FULL, "sinking(.., false)", new int[] {0, 6}, new long[] {99, 99}, -1, 2, (x, many) -> x.sinking(many, false));
        range(FULL, "sinking(.., true)", new int[] {0, 6}, new long[] {160000, 160000}, -1, 2, (x, many) -> x.sinking(many, true));
        // As bits: none of the people, and all of them.
        range(FULL, "among(.., false)", new int[] {0, 63}, new long[] {0, 1}, -1, 1, (x, bits) -> x.among(bits, false));
        range(FULL, "among(.., true)", new int[] {0, 63}, new long[] {1, 1}, -1, 1, (x, bits) -> x.among(bits, true));
        range(ONE, "among(.., false) of one", new int[] {0, 1}, new long[] {0, 1}, -1, 1, (x, bits) -> x.among(bits, false));
        ShoreGuards x = Check.beachOf(ONE);
        Check.refused(x, "among(3, false), one of whom isn't there", x.among(3, false), -1, 1);
        Check.refused(x, "among(-2147483647, false)", x.among(-2147483647, false), -1, 1);
    }

    private static void draws() {
        int[] seeds = {0, 65536};
        int[] many = {0, 90};
        String one = "beach limit 1 heat 0 slips 0;person a reader at 50 thought 0 by 37";
        range(one, "afternoons(0, .., 1)", seeds, new long[] {0, 1}, -1, 2, (x, seed) -> x.afternoons(0, seed, 1));
        range(one, "worst(.., 1)", seeds, new long[] {0, 1}, -1, 2, (x, seed) -> x.worst(seed, 1));
        range(one, "afternoons(0, 65536, ..)", many, new long[] {0, 90}, -1, 2, (x, n) -> x.afternoons(0, 65536, n));
        range(one, "worst(65536, ..)", many, new long[] {0, 1}, -1, 2, (x, n) -> x.worst(65536, n));
    }

    private static void acts() {
        range(FULL, "seat(1, ..)", new int[] {0, 99}, new long[] {99, 99}, -1, 2, (x, place) -> x.seat(1, place));
        range(FULL, "minute", new int[] {1, 60}, new long[] {1, 4}, -1, 2, (x, n) -> x.minute(n));
        // At first a alone is UNDER.
        ShoreGuards x = Check.beachOf(FULL);
        for (int p : new int[] {-1, 6, Integer.MIN_VALUE, Integer.MAX_VALUE}) {
            Check.refused(x, "lift(" + p + ")", x.lift(p), -1, 1);
            Check.refused(x, "back(" + p + ")", x.back(p), 1);
        }
        Check.granted(x, "lift(0)", x.lift(0), 0);
    }

    /** Of two refusals the first that the document tells. */
    private static void firstOfTwo() {
        ShoreGuards x = Check.beachOf(FULL);
        Check.refused(x, "afternoons(6, -1, 0)", x.afternoons(6, -1, 0), -1, 1);
        Check.refused(x, "afternoons(-1, 0, 91)", x.afternoons(-1, 0, 91), -1, 1);
        Check.refused(x, "afternoons(0, -1, 91)", x.afternoons(0, -1, 91), -1, 2);
        Check.refused(x, "worst(-1, 0)", x.worst(-1, 0), -1, 2);
        Check.refused(x, "seat(6, 100)", x.seat(6, 100), -1, 1);
        Check.refused(x, "seat(6, 0)", x.seat(6, 0), -1, 1);
        Check.refused(x, "seat(0, 100)", x.seat(0, 100), -1, 2);
        Check.refused(x, "seat(0, 0)", x.seat(0, 0), -1, 5);
        Check.refused(x, "seat(5, 99)", x.seat(5, 99), -1, 5);
        // Not UNDER, and REACHED by nobody: that he isn't UNDER is told first.
        Check.refused(x, "lift(2) at 0", x.lift(2), -1, 5);
        x.minute(60);
        Check.refused(x, "lift(2) at 60", x.lift(2), -1, 6);
        for (int i = 0; i < 15; i++) {
            x.minute(60);
        }
        Check.due("size(8)", x.size(8), 960);
        Check.refused(x, "minute(61) with no room", x.minute(61), -1, 2);
        Check.refused(x, "minute(60) with no room", x.minute(60), -1, 3);
    }
}
