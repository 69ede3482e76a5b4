/** The bounds of each WHOLE of THE TEXT: the last that is taken, the first that is refused, FAULT 4 at it. */
public final class WholesTest {
    interface Asked {
        long of(ShoreGuards x);
    }

    private static final String[] LINES = {
        "beach limit # heat 2 slips 5;person a reader at 5 thought 5 by 5",
        "beach limit 5 heat # slips 5;person a reader at 5 thought 5 by 5",
        "beach limit 5 heat 2 slips #;person a reader at 5 thought 5 by 5",
        "beach limit 5 heat 2 slips 5;person a reader at # thought 5 by 5",
        "beach limit 5 heat 2 slips 5;person a reader at 5 thought # by 5",
        "beach limit 5 heat 2 slips 5;person a reader at 5 thought 5 by #",
        "beach limit 5 heat 2 slips 5;person a reader at 5 thought 5 by 5;post q at # off 5",
        "beach limit 5 heat 2 slips 5;person a reader at 5 thought 5 by 5;post q at 5 off #"};
    private static final int[][] ENDS = {{1, 60}, {0, 9}, {0, 100}, {0, 99}, {0, 99}, {0, 100}, {0, 99}, {1, 40}};
    private static final Asked[] KEPT = {
        x -> x.size(0), x -> x.size(1), x -> x.size(2), x -> x.person(0, 1), x -> x.person(0, 2), x -> x.person(0, 3),
        x -> x.post(0, 0), x -> x.post(0, 1)};

    private WholesTest() {
    }

    public static void main(String[] args) {
        for (int k = 0; k < LINES.length; k++) {
            for (int end : ENDS[k]) {
                taken(k, Integer.toString(end), end);
                if (end < 100) {
                    taken(k, String.format("%03d", end), end);
                }
            }
            refused(k, Integer.toString(ENDS[k][1] + 1), 4);
            refused(k, "999", 4);
            if (ENDS[k][0] > 0) {
                refused(k, "0", 4);
                refused(k, "000", 4);
            }
            // There is no sign ahead of a WHOLE, and none of four digits.
            refused(k, "-1", 1);
            refused(k, "+1", 1);
            refused(k, "0001", 1);
            refused(k, "1000", 1);
            refused(k, "", 1);
            refused(k, "x", 1);
            refused(k, ";", 1);
        }
        severalDigits();
        Check.finish();
    }

    private static void taken(int k, String whole, int value) {
        String text = LINES[k].replace("#", whole);
        ShoreGuards x = new ShoreGuards();
        Check.granted(x, text, Check.tell(x, text), 1);
        Check.due("kept of " + text, KEPT[k].of(x), value);
        Check.due("fault() of " + text, x.fault(), 0);
        Check.due("where() of " + text, x.where(), -1);
    }

    private static void refused(int k, String whole, int fault) {
        String text = LINES[k].replace("#", whole);
        // What lacks is missed where the next TOKEN, or the end, stands.
        int at = LINES[k].indexOf('#');
        while (whole.isEmpty() && at < text.length() && text.charAt(at) == ' ') {
            at++;
        }
        ShoreGuards x = new ShoreGuards();
        Check.refused(x, text, Check.tell(x, text), -1, 4);
        Check.due("fault() of " + text, x.fault(), fault);
        Check.due("where() of " + text, x.where(), at);
        Check.due("size(11) behind " + text, x.size(11), 0);
        Check.refused(x, "sinkers() behind " + text, x.sinkers(), -1, 1);
        Check.due("fault() still", x.fault(), fault);
    }

    /** Each digit counts by its place. */
    private static void severalDigits() {
        for (int value = 0; value <= 99; value++) {
            taken(4, Integer.toString(value), value);
        }
        for (int value = 100; value <= 999; value++) {
            refused(4, Integer.toString(value), 4);
        }
    }
}
