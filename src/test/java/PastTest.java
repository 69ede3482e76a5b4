/** 16 ACTS and one more, UNDO with none left, 3 IMAGES and one more, the last minute. */
public final class PastTest {
    /** Two readers side by side who SINK at 0, two posts; s is manned. */
    private static final String TWO = "beach limit 60 heat 0 slips 0;person a reader at 10 thought 0 by 100;"
        + "person b reader at 12 thought 0 by 100;post s at 10 off 3;post t at 12 off 2;manned s";

    private PastTest() {
    }

    public static void main(String[] args) {
        undoOfEach();
        sixteenAndOneMore();
        aroundTheRow();
        refusedActs();
        threeAndOneMore();
        behindLaterImages();
        imagesAndUndo();
        nextBeach();
        lastMinute();
        lateMinutes();
        Check.finish();
    }

    private static void told(ShoreGuards x, String behind, int trouble) {
        Check.due("trouble() behind " + behind, x.trouble(), trouble);
        Check.due("where() behind " + behind, x.where(), -1);
        Check.due("fault() behind " + behind, x.fault(), 0);
    }

    /** One of the five ACTS. */
    private static void act(ShoreGuards x, int kind) {
        switch (kind) {
            case 0:
                Check.granted(x, "man(1)", x.man(1), true);
                break;
            case 1:
                Check.granted(x, "leave(0)", x.leave(0), true);
                break;
            case 2:
                Check.granted(x, "seat(0, 70)", x.seat(0, 70), 0);
                break;
            case 3:
                Check.granted(x, "minute(7)", x.minute(7), 3);
                break;
            default:
                Check.granted(x, "lift(1)", x.lift(1), 0);
                break;
        }
    }

    private static void undoOfEach() {
        ShoreGuards fresh = Check.beachOf(TWO);
        Check.refused(fresh, "undo() with none", fresh.undo(), 6);
        told(fresh, "undo() with none", 6);
        String before = Calls.scene(fresh);
        for (int kind = 0; kind < 5; kind++) {
            ShoreGuards x = Check.beachOf(TWO);
            act(x, kind);
            Check.due("size(9) behind act " + kind, x.size(9), 1);
            Check.due("something changed by act " + kind, Calls.scene(x).equals(before), false);
            Check.granted(x, "undo() of act " + kind, x.undo(), true);
            told(x, "undo() of act " + kind, 0);
            Check.due("all as before act " + kind, Calls.scene(x).equals(before), true);
            Check.refused(x, "undo() with none left", x.undo(), 6);
            Check.due("all still as before act " + kind, Calls.scene(x).equals(before), true);
        }
        // Each of several, the latest first; seats of both, both lifted.
        ShoreGuards x = Check.beachOf(TWO);
        String[] behind = new String[7];
        behind[0] = Calls.scene(x);
        x.seat(0, 9);
        behind[1] = Calls.scene(x);
        x.seat(1, 13);
        behind[2] = Calls.scene(x);
        x.lift(0);
        behind[3] = Calls.scene(x);
        x.lift(1);
        behind[4] = Calls.scene(x);
        Check.due("both LIFTED", x.sinkers(), 0);
        x.man(1);
        behind[5] = Calls.scene(x);
        x.minute(60);
        for (int i = 5; i >= 0; i--) {
            Check.granted(x, "undo()", x.undo(), true);
            Check.due("all as behind act " + i, Calls.scene(x).equals(behind[i]), true);
        }
        Check.refused(x, "undo()", x.undo(), 6);
    }

    private static void sixteenAndOneMore() {
        // Sixteen acts: all can be undone, back to the beginning.
        ShoreGuards x = Check.beachOf(TWO);
        for (int i = 1; i <= 16; i++) {
            x.minute(1);
            Check.due("size(9)", x.size(9), i);
        }
        for (int i = 15; i >= 0; i--) {
            Check.granted(x, "undo()", x.undo(), true);
            Check.due("size(8)", x.size(8), i);
            Check.due("size(9)", x.size(9), i);
        }
        Check.refused(x, "undo() 17", x.undo(), 6);
        told(x, "undo() 17", 6);
        Check.due("size(8)", x.size(8), 0);
        // Seventeen: the first one stays for good.
        ShoreGuards y = Check.beachOf(TWO);
        y.seat(0, 70);
        String behindFirst = Calls.scene(y).replace(" size9=1", " size9=0");
        for (int i = 1; i <= 16; i++) {
            y.minute(1);
            Check.due("size(9)", y.size(9), Math.min(i + 1, 16));
        }
        told(y, "act 17", 0);
        for (int i = 15; i >= 0; i--) {
            Check.granted(y, "undo()", y.undo(), true);
            Check.due("size(8)", y.size(8), i);
        }
        Check.refused(y, "undo() 17", y.undo(), 6);
        Check.due("person(0, 1) stays", y.person(0, 1), 70);
        Check.due("all as behind the first act", Calls.scene(y).equals(behindFirst), true);
    }

    /** Acts and undoing go round where the acts are kept. */
    private static void aroundTheRow() {
        ShoreGuards x = Check.beachOf(TWO);
        for (int i = 0; i < 40; i++) {
            x.minute(1);
        }
        for (int i = 0; i < 10; i++) {
            x.undo();
        }
        Check.due("size(8)", x.size(8), 30);
        Check.due("size(9)", x.size(9), 6);
        for (int i = 0; i < 9; i++) {
            x.minute(10);
        }
        Check.due("size(8)", x.size(8), 120);
        Check.due("size(9)", x.size(9), 15);
        x.minute(1);
        Check.due("size(9)", x.size(9), 16);
        x.minute(1);
        Check.due("size(9)", x.size(9), 16);
        int[] due = {121, 120, 110, 100, 90, 80, 70, 60, 50, 40, 30, 29, 28, 27, 26, 25};
        for (int minute : due) {
            Check.granted(x, "undo()", x.undo(), true);
            Check.due("size(8)", x.size(8), minute);
        }
        Check.refused(x, "undo()", x.undo(), 6);
        Check.due("size(8)", x.size(8), 25);
    }

    /** What is refused, and what only asks, is no ACT. */
    private static void refusedActs() {
        ShoreGuards x = Check.beachOf(TWO);
        x.seat(0, 70);
        String before = Calls.scene(x);
        Check.refused(x, "man(0)", x.man(0), 5);
        Check.refused(x, "man(2)", x.man(2), 1);
        Check.refused(x, "leave(1)", x.leave(1), 5);
        Check.refused(x, "leave(-1)", x.leave(-1), 1);
        Check.refused(x, "seat(0, 70)", x.seat(0, 70), -1, 5);
        Check.refused(x, "seat(0, 100)", x.seat(0, 100), -1, 2);
        Check.refused(x, "seat(2, 0)", x.seat(2, 0), -1, 1);
        Check.refused(x, "minute(0)", x.minute(0), -1, 2);
        Check.refused(x, "lift(0), 63 off", x.lift(0), -1, 6);
        Check.refused(x, "lift(2)", x.lift(2), -1, 1);
        Check.refused(x, "back(0)", x.back(0), 1);
        Check.due("all as before", Calls.scene(x).equals(before), true);
        Check.granted(x, "undo() of the seat", x.undo(), true);
        Check.due("person(0, 1)", x.person(0, 1), 10);
        // An act undone leaves room for the one before.
        Check.refused(x, "undo()", x.undo(), 6);
    }

    private static void threeAndOneMore() {
        ShoreGuards x = Check.beachOf(TWO);
        for (int i = 0; i < 3; i++) {
            Check.refused(x, "back(" + i + "), not yet", x.back(i), 1);
            told(x, "back(), not yet", 1);
            Check.granted(x, "image()", x.image(), i);
            told(x, "image()", 0);
            Check.due("size(10)", x.size(10), i + 1);
            x.minute(10);
        }
        // Refused twice: the three stay.
        for (int i = 0; i < 2; i++) {
            Check.refused(x, "image(), one more", x.image(), -1, 3);
            told(x, "image(), one more", 3);
            Check.due("size(10)", x.size(10), 3);
        }
        for (int image : new int[] {-1, 3, Integer.MIN_VALUE, Integer.MAX_VALUE}) {
            Check.refused(x, "back(" + image + ")", x.back(image), 1);
            Check.due("size(8) stays", x.size(8), 30);
            Check.due("size(9) stays", x.size(9), 3);
        }
        for (int i = 0; i < 3; i++) {
            Check.granted(x, "back(" + i + ")", x.back(i), true);
            told(x, "back()", 0);
            Check.due("size(8)", x.size(8), 10 * i);
            Check.due("size(10) stays", x.size(10), 3);
        }
        Check.refused(x, "image() behind back()", x.image(), -1, 3);
    }

    /** Gone back to an early IMAGE, the later ones stay, and are gone to from there. */
    private static void behindLaterImages() {
        ShoreGuards x = Check.beachOf(TWO);
        String[] of = new String[3];
        of[0] = Calls.scene(x);
        x.image();
        x.man(1);
        x.seat(0, 70);
        x.image();
        of[1] = Calls.scene(x);
        x.minute(7);
        x.lift(1);
        x.leave(0);
        x.image();
        of[2] = Calls.scene(x);
        for (int i = 0; i < 3; i++) {
            // An IMAGE is of how all was; of acts and IMAGES it keeps nothing.
            of[i] = of[i].replaceAll(" size9=\\d+ size10=\\d+", " size9=0 size10=3");
        }
        for (int image : new int[] {0, 2, 1, 1, 0}) {
            Check.granted(x, "back(" + image + ")", x.back(image), true);
            Check.due("all as by image " + image, Calls.scene(x).equals(of[image]), true);
            Check.refused(x, "undo() behind back()", x.undo(), 6);
            Check.due("all still as by image " + image, Calls.scene(x).equals(of[image]), true);
            // Acts behind it change no IMAGE.
            x.seat(1, 90);
            x.minute(1);
        }
    }

    private static void imagesAndUndo() {
        ShoreGuards x = Check.beachOf(TWO);
        x.minute(1);
        x.minute(2);
        Check.granted(x, "image()", x.image(), 0);
        Check.due("size(9): image() is no ACT", x.size(9), 2);
        Check.granted(x, "undo() behind image()", x.undo(), true);
        Check.due("size(8)", x.size(8), 1);
        Check.due("size(10): undo() takes no IMAGE", x.size(10), 1);
        Check.granted(x, "back(0)", x.back(0), true);
        Check.due("size(8)", x.size(8), 3);
        Check.refused(x, "undo()", x.undo(), 6);
        // back() is no ACT either; acts behind it can be undone as far as it.
        x.minute(4);
        x.minute(5);
        Check.due("size(9)", x.size(9), 2);
        Check.granted(x, "undo()", x.undo(), true);
        Check.granted(x, "undo()", x.undo(), true);
        Check.refused(x, "undo()", x.undo(), 6);
        Check.due("size(8)", x.size(8), 3);
        // Gone back where all is so already, nothing can be undone any more either.
        x.minute(1);
        Check.granted(x, "image()", x.image(), 1);
        Check.granted(x, "back(1)", x.back(1), true);
        Check.due("size(8)", x.size(8), 4);
        Check.refused(x, "undo()", x.undo(), 6);
        // Sixteen acts and one more behind it as ever.
        for (int i = 0; i < 17; i++) {
            x.minute(1);
        }
        Check.due("size(9)", x.size(9), 16);
        for (int i = 0; i < 16; i++) {
            x.undo();
        }
        Check.due("size(8)", x.size(8), 5);
        Check.refused(x, "undo()", x.undo(), 6);
        Check.granted(x, "back(0)", x.back(0), true);
        Check.due("size(8)", x.size(8), 3);
    }

    /** Behind a BEACH with one LIFTED, late and with much behind it, the next one begins anew. */
    private static void nextBeach() {
        ShoreGuards x = Check.beachOf(TWO);
        String anew = Calls.scene(x);
        x.minute(5);
        x.lift(0);
        x.lift(1);
        x.man(1);
        x.leave(0);
        x.seat(1, 99);
        x.image();
        Check.granted(x, "the same BEACH", Check.tell(x, TWO), 2);
        told(x, "the same BEACH", 0);
        Check.due("all anew", Calls.scene(x).equals(anew), true);
        Check.refused(x, "undo()", x.undo(), 6);
        Check.refused(x, "back(0)", x.back(0), 1);
        Check.granted(x, "image()", x.image(), 0);
    }

    private static void lastMinute() {
        ShoreGuards x = Check.beachOf(TWO);
        for (int i = 0; i < 16; i++) {
            x.minute(60);
        }
        Check.due("size(8)", x.size(8), 960);
        Check.refused(x, "minute(40), 1000", x.minute(40), -1, 3);
        told(x, "minute(40)", 3);
        Check.due("size(8)", x.size(8), 960);
        Check.refused(x, "minute(60), 1020", x.minute(60), -1, 3);
        Check.granted(x, "minute(38)", x.minute(38), 0);
        Check.refused(x, "minute(2), 1000", x.minute(2), -1, 3);
        Check.granted(x, "minute(1)", x.minute(1), 0);
        told(x, "minute(1)", 0);
        Check.due("size(8)", x.size(8), 999);
        for (int n : new int[] {1, 2, 60}) {
            Check.refused(x, "minute(" + n + ") at 999", x.minute(n), -1, 3);
            told(x, "minute() at 999", 3);
        }
        for (int n : new int[] {0, -1, 61, Integer.MIN_VALUE, Integer.MAX_VALUE}) {
            Check.refused(x, "minute(" + n + ") at 999", x.minute(n), -1, 2);
        }
        Check.due("size(8)", x.size(8), 999);
        Check.due("size(9)", x.size(9), 16);
        Check.granted(x, "undo()", x.undo(), true);
        Check.due("size(8)", x.size(8), 998);
        Check.granted(x, "minute(1) again", x.minute(1), 0);
        // An IMAGE of the last minute.
        Check.granted(x, "image()", x.image(), 0);
        x.undo();
        Check.granted(x, "back(0)", x.back(0), true);
        Check.due("size(8)", x.size(8), 999);
        Check.refused(x, "minute(1)", x.minute(1), -1, 3);
    }

    /** At 999: who SINKS at all is the same, but nobody can be had out any more. */
    private static void lateMinutes() {
        ShoreGuards x = Check.beachOf(TWO);
        ShoreGuards early = Check.beachOf(TWO);
        for (int i = 0; i < 16; i++) {
            x.minute(60);
        }
        x.minute(39);
        for (int p = 0; p < 2; p++) {
            Check.due("person(p, 7)", x.person(p, 7), 2);
            Check.due("person(p, 4)", x.person(p, 4), 0);
            Check.refused(x, "lift(p)", x.lift(p), -1, 5);
        }
        for (int q = 0; q < 2; q++) {
            Check.granted(x, "alone(q)", x.alone(q), 0);
            Check.granted(x, "aloneFree(q)", x.aloneFree(q), 999);
            Check.refused(x, "aloneAt(q, 0)", x.aloneAt(q, 0), -1, 1);
        }
        for (Calls.Entry e : Calls.asking()) {
            if (!e.name.startsWith("alone")) {
                Check.due(e.name + " at 999", e.call.of(x), e.call.of(early));
            }
        }
        Check.due("led(0)", Check.led(x, 0), Check.led(early, 0));
    }
}
