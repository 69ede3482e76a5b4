/** THE TAPE empty and full, and a BEACH with the most of everything, and with one more. */
public final class RoomTest {
    /** Six people, five posts, all manned, nine knowings, six signs. */
    private static final String MOST = "beach limit 60 heat 9 slips 100;"
        + "person aaaaaaaa sleeper at 99 thought 99 by 100;person b talker at 0 thought 0 by 0;person c child at 1 thought 2 by 3;"
        + "person d reader at 50 thought 50 by 50;person e reader at 60 thought 60 by 60;person f reader at 70 thought 70 by 70;"
        + "post p at 0 off 1;post q at 99 off 40;post r at 10 off 10;post s at 20 off 20;post tttttttt at 30 off 30;"
        + "manned tttttttt;manned p;manned q;manned r;manned s;"
        + "knows aaaaaaaa b;knows b aaaaaaaa;knows c d;knows c e;knows c f;knows d e;knows e f;knows f d;knows f c;"
        + "waved aaaaaaaa;still b;waved c;still d;waved e;still f";
    private static final int[] MOST_SIZES = {60, 9, 100, 6, 5, 5, 9, 6, 0, 0, 0, 0};

    private RoomTest() {
    }

    public static void main(String[] args) {
        emptyTape();
        fullTape();
        lastBytes();
        most();
        oneMore();
        fewest();
        Check.finish();
    }

    private static void told(ShoreGuards x, String behind, int trouble, int where, int fault) {
        Check.due("trouble() behind " + behind, x.trouble(), trouble);
        Check.due("where() behind " + behind, x.where(), where);
        Check.due("fault() behind " + behind, x.fault(), fault);
    }

    private static String padded(String text, int length) {
        StringBuilder longer = new StringBuilder(text);
        while (longer.length() < length) {
            longer.append(' ');
        }
        return longer.toString();
    }

    private static void emptyTape() {
        ShoreGuards x = new ShoreGuards();
        Check.due("size(11), nothing fed", x.size(11), 0);
        Check.due("beach(1) of no byte", x.beach(1), -1);
        told(x, "beach(1) of no byte", 2, -1, 0);
        Check.due("beach(-1) of no byte", x.beach(-1), -1);
        told(x, "beach(-1) of no byte", 2, -1, 0);
        Check.due("beach(0) of no byte", x.beach(0), -1);
        told(x, "beach(0) of no byte", 4, 0, 1);
        Check.due("beach(1) behind it", x.beach(1), -1);
        told(x, "beach(1) behind it", 2, -1, 1);
        // A BEACH empties THE TAPE, with a FAULT and without one; a refused number doesn't.
        Check.feedText(x, MOST);
        int fed = x.size(11);
        Check.due("size(11)", fed, (MOST.length() + 19) / 20 * 20);
        Check.due("beach(more than fed)", x.beach(fed + 1), -1);
        told(x, "beach(more than fed)", 2, -1, 1);
        Check.due("size(11) stays", x.size(11), fed);
        Check.due("beach(-1)", x.beach(-1), -1);
        Check.due("size(11) stays", x.size(11), fed);
        Check.granted(x, "beach(all fed)", x.beach(fed), 6);
        told(x, "beach(all fed)", 0, -1, 0);
        Check.due("size(11) behind a BEACH", x.size(11), 0);
        Check.due("feed behind a BEACH", x.feed(0, 0, 0, 0, 0), 20);
        Check.due("beach(0) of twenty bytes", x.beach(0), -1);
        told(x, "beach(0) of twenty bytes", 4, 0, 1);
        Check.due("size(11) behind a FAULT", x.size(11), 0);
        Check.due("size(3) stays", x.size(3), 6);
        Check.due("feed behind a FAULT", x.feed(0, 0, 0, 0, 0), 20);
    }

    private static void fullTape() {
        ShoreGuards x = new ShoreGuards();
        String text = padded(MOST, 880);
        Check.feedText(x, text);
        Check.due("size(11) at 880", x.size(11), 880);
        Check.refused(x, "undo()", x.undo(), 6);
        Check.due("the last feed", x.feed(0x20202020, 0x20202020, 0x20202020, 0x20202020, 0x20202020), 900);
        Check.due("size(11) at 900", x.size(11), 900);
        // Refused twice: none of the bytes comes, and nothing else is changed.
        for (int i = 0; i < 2; i++) {
            Check.due("one feed too many", x.feed(0x40404040, -1, 0, 1, 2), -1);
            Check.due("size(11) still", x.size(11), 900);
            told(x, "one feed too many", 6, -1, 0);
        }
        Check.due("beach(901)", x.beach(901), -1);
        told(x, "beach(901)", 2, -1, 0);
        Check.due("size(11) still", x.size(11), 900);
        Check.due("feed still", x.feed(1, 2, 3, 4, 5), -1);
        Check.granted(x, "beach(900)", x.beach(900), 6);
        told(x, "beach(900)", 0, -1, 0);
        Check.due("feed behind it", x.feed(1, 2, 3, 4, 5), 20);
        // 900 bytes none of which begins a TOKEN.
        ShoreGuards y = new ShoreGuards();
        for (int i = 1; i <= 45; i++) {
            Check.due("feed", y.feed(-1, -1, -1, -1, -1), 20 * i);
        }
        Check.due("feed 46", y.feed(-1, -1, -1, -1, -1), -1);
        Check.due("beach(900) of 255s", y.beach(900), -1);
        told(y, "beach(900) of 255s", 4, 0, 1);
    }

    /** The bytes up to the 900th count, and none behind it. */
    private static void lastBytes() {
        String last = ";knows aaaaaaaa c";
        String eight = MOST.replace(";knows f c", "");
        String text = padded(eight, 900 - last.length()) + last;
        ShoreGuards x = new ShoreGuards();
        Check.granted(x, "a TOKEN at byte 899", Check.tell(x, text), 6);
        Check.due("person(0, 8)", x.person(0, 8), 2 + 4);
        ShoreGuards y = new ShoreGuards();
        Check.due("a FAULT at byte 899", Check.tell(y, padded(MOST, 899) + "@"), -1);
        told(y, "a FAULT at byte 899", 4, 899, 1);
        ShoreGuards z = new ShoreGuards();
        Check.due("a FAULT at the end of 900", Check.tell(z, padded(MOST, 899) + ";"), -1);
        told(z, "a FAULT at the end of 900", 4, 900, 1);
        ShoreGuards w = new ShoreGuards();
        Check.due("a beach alone in 900", Check.tell(w, padded("beach limit 5 heat 2 slips 5", 900)), -1);
        told(w, "a beach alone in 900", 4, 900, 6);
        ShoreGuards v = new ShoreGuards();
        Check.due("900 blanks", Check.tell(v, padded("", 900)), -1);
        told(v, "900 blanks", 4, 900, 1);
        // What was fed ahead of a BEACH with a FAULT is gone from the one behind it.
        Check.granted(v, "the text itself", Check.tell(v, MOST), 6);
    }

    private static void most() {
        ShoreGuards x = Check.beachOf(MOST);
        for (int what = 0; what <= 11; what++) {
            Check.due("size(" + what + ") of the most", x.size(what), MOST_SIZES[what]);
        }
        int[] knows = {2, 1, 8 + 16 + 32, 16, 32, 8 + 4};
        int[] kinds = {2, 1, 3, 0, 0, 0};
        int[] places = {99, 0, 1, 50, 60, 70};
        for (int p = 0; p < 6; p++) {
            Check.granted(x, "person(" + p + ", 0)", x.person(p, 0), kinds[p]);
            Check.granted(x, "person(" + p + ", 1)", x.person(p, 1), places[p]);
            Check.granted(x, "person(" + p + ", 8)", x.person(p, 8), knows[p]);
        }
        int[] offs = {1, 40, 10, 20, 30};
        for (int q = 0; q < 5; q++) {
            Check.granted(x, "post(" + q + ", 1)", x.post(q, 1), offs[q]);
            Check.granted(x, "post(" + q + ", 2)", x.post(q, 2), 1);
        }
        Check.refused(x, "person(6, 0)", x.person(6, 0), -1, 1);
        Check.refused(x, "post(5, 0)", x.post(5, 0), -1, 1);
    }

    private static void fault(String text, int fault, int where) {
        ShoreGuards x = new ShoreGuards();
        Check.due("beach of " + text, Check.tell(x, text), -1);
        told(x, text, 4, where, fault);
        for (int what = 0; what <= 11; what++) {
            Check.due("size(" + what + ") behind " + text, x.size(what), 0);
        }
        // On a BEACH the same text leaves all as it was.
        ShoreGuards y = Check.beachOf(Check.USUAL);
        Check.due("beach of " + text, Check.tell(y, text), -1);
        told(y, text, 4, where, fault);
        Check.due("size(3)", y.size(3), 4);
        Check.due("size(7)", y.size(7), 3);
    }

    private static void oneMore() {
        int end = MOST.length();
        fault(MOST + ";person g reader at 1 thought 1 by 1", 5, end + 1);
        fault(MOST + "; person g reader at 1 thought 1 by 1", 5, end + 2);
        fault(MOST + ";post u at 1 off 1", 5, end + 1);
        fault(MOST + ";knows d f", 5, end + 1);
        // At that WORD, whatever stands behind it.
        for (String word : new String[] {"person", "post", "knows"}) {
            fault(MOST + ";" + word, 5, end + 1);
            fault(MOST + ";" + word + " @", 5, end + 1);
            fault(MOST + ";" + word + " b", 5, end + 1);
            fault(MOST + ";" + word + " zz zz", 5, end + 1);
        }
        // Of these there is room for each once: one more is one again.
        fault(MOST + ";manned s", 3, end + 8);
        fault(MOST + ";waved f", 3, end + 7);
        fault(MOST + ";still aaaaaaaa", 3, end + 7);
        fault(MOST + ";beach limit 5 heat 2 slips 5", 3, end + 1);
        // One less of each leaves room for one.
        Check.beachOf(MOST.replace(";knows f c", "") + ";knows d f");
        Check.beachOf(MOST.replace(";still f", "") + ";waved f");
        Check.beachOf(MOST.replace(";manned s;", ";") + ";manned s");
    }

    private static void fewest() {
        ShoreGuards x = Check.beachOf("beach limit 1 heat 0 slips 0;person a reader at 0 thought 0 by 0");
        int[] sizes = {1, 0, 0, 1, 0, 0, 0, 0, 0, 0, 0, 0};
        for (int what = 0; what <= 11; what++) {
            Check.due("size(" + what + ") of the fewest", x.size(what), sizes[what]);
        }
        String nobody = "beach limit 1 heat 0 slips 0;post q at 0 off 1;manned q";
        fault(nobody, 6, nobody.length());
    }
}
