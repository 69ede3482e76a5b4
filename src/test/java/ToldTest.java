/** Promises 51 to 53: led, size, trouble. */
public final class ToldTest {
    private ToldTest() {
    }

    public static void main(String[] args) {
        led();
        sizes();
        troubles();
        Check.finish();
    }

    private static void led() {
        Check.due("led(0) without a BEACH", Check.led(new ShoreGuards(), 0), Check.THREW);
        ShoreGuards x = Check.beachOf(Check.USUAL);
        Check.due("led(0)", Check.led(x, 0), 2);
        Check.due("led(1)", Check.led(x, 1), 3);
        for (int i : new int[] {2, -1, Integer.MIN_VALUE, Integer.MAX_VALUE}) {
            Check.due("led(" + i + ")", Check.led(x, i), Check.THREW);
        }
        x.leave(0);
        for (int i = 0; i < 4; i++) {
            Check.due("led(" + i + "), none manned", Check.led(x, i), i);
        }
        // Who never SINKS isn't led.
        x.seat(3, 14);
        Check.due("led(3)", Check.led(x, 3), Check.THREW);
        // led() leaves TROUBLE alone.
        x.leave(0);
        Check.led(x, 0);
        Check.led(x, 9);
        Check.due("trouble()", x.trouble(), 5);
    }

    private static void sizes() {
        ShoreGuards x = Check.beachOf(Check.USUAL);
        long[] sizes = {12, 2, 20, 4, 2, 1, 2, 3, 0, 0, 0, 0};
        for (int what = 0; what <= 11; what++) {
            Check.due("size(" + what + ")", x.size(what), sizes[what]);
        }
        x.minute(5);
        x.man(1);
        x.image();
        x.feed(1, 2, 3, 4, 5);
        Check.due("size(8)", x.size(8), 5);
        Check.due("size(9)", x.size(9), 2);
        Check.due("size(10)", x.size(10), 1);
        Check.due("size(11)", x.size(11), 20);
        Check.due("size(5)", x.size(5), 1);
        for (int what : new int[] {-1, 12, Integer.MIN_VALUE, Integer.MAX_VALUE}) {
            Check.due("size(" + what + ")", x.size(what), -1);
            Check.due("new size(" + what + ")", new ShoreGuards().size(what), -1);
        }
        Check.due("trouble() behind size()", x.trouble(), 0);
        ShoreGuards y = new ShoreGuards();
        y.feed(1, 2, 3, 4, 5);
        Check.due("size(11) without a BEACH", y.size(11), 20);
    }

    private static void troubles() {
        ShoreGuards x = Check.beachOf(Check.USUAL);
        x.person(9, 0);
        Check.due("1", x.trouble(), 1);
        Check.due("1 again", x.trouble(), 1);
        x.under(-1);
        Check.due("2", x.trouble(), 2);
        x.image();
        Check.due("0", x.trouble(), 0);
        x.image();
        x.image();
        x.image();
        Check.due("3", x.trouble(), 3);
        // A full tape is told by no number.
        for (int i = 0; i < 46; i++) {
            x.feed(0, 0, 0, 0, 0);
        }
        Check.due("3 still", x.trouble(), 3);
        x.beach(900);
        Check.due("4", x.trouble(), 4);
        x.man(0);
        Check.due("5", x.trouble(), 5);
        x.undo();
        Check.due("6", x.trouble(), 6);
        // -2 isn't refused.
        Check.due("bestPost()", x.bestPost(), -2);
        Check.due("0 with -2", x.trouble(), 0);
    }
}
