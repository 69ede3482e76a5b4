/** Promises 43 to 50: man, leave, seat, minute, lift, undo, image, back. */
public final class ActsTest {
    private ActsTest() {
    }

    public static void main(String[] args) {
        withoutBeach();
        manning();
        seating();
        minutes();
        lifting();
        undoing();
        images();
        Check.finish();
    }

    private static void withoutBeach() {
        ShoreGuards x = new ShoreGuards();
        Check.refused(x, "man(0)", x.man(0), 1);
        Check.refused(x, "leave(0)", x.leave(0), 1);
        Check.refused(x, "seat(0, 0)", x.seat(0, 0), -1, 1);
        Check.refused(x, "minute(0)", x.minute(0), -1, 1);
        Check.refused(x, "lift(0)", x.lift(0), -1, 1);
        Check.refused(x, "undo()", x.undo(), 6);
        Check.refused(x, "image()", x.image(), -1, 1);
        Check.refused(x, "back(0)", x.back(0), 1);
    }

    private static void manning() {
        ShoreGuards x = Check.beachOf(Check.USUAL);
        for (int q : new int[] {-1, 2, 5, Integer.MIN_VALUE, Integer.MAX_VALUE}) {
            Check.refused(x, "man(" + q + ")", x.man(q), 1);
            Check.refused(x, "leave(" + q + ")", x.leave(q), 1);
        }
        Check.refused(x, "man(0)", x.man(0), 5);
        Check.refused(x, "leave(1)", x.leave(1), 5);
        Check.due("size(9) behind refusals", x.size(9), 0);
        Check.granted(x, "man(1)", x.man(1), true);
        Check.due("post(1, 2)", x.post(1, 2), 1);
        Check.granted(x, "leave(0)", x.leave(0), true);
        Check.due("post(0, 2)", x.post(0, 2), 0);
        Check.due("reached()", x.reached(), 0);
        Check.due("size(5) as told", x.size(5), 1);
        Check.due("size(9)", x.size(9), 2);
    }

    private static void seating() {
        ShoreGuards x = Check.beachOf(Check.USUAL);
        Check.refused(x, "seat(4, 0)", x.seat(4, 0), -1, 1);
        Check.refused(x, "seat(-1, -1)", x.seat(-1, -1), -1, 1);
        for (int place : new int[] {-1, 100, Integer.MIN_VALUE, Integer.MAX_VALUE}) {
            Check.refused(x, "seat(0, " + place + ")", x.seat(0, place), -1, 2);
        }
        Check.refused(x, "seat(0, 10)", x.seat(0, 10), -1, 5);
        Check.granted(x, "seat(0, 99)", x.seat(0, 99), 7);
        Check.due("person(1, 4), alone now", x.person(1, 4), 2);
        Check.granted(x, "seat(0, 0)", x.seat(0, 0), 7);
        Check.granted(x, "seat(3, 28)", x.seat(3, 28), -2);
        Check.granted(x, "seat(1, 30)", x.seat(1, 30), 8);
        Check.due("size(9)", x.size(9), 4);
    }

    private static void minutes() {
        ShoreGuards x = Check.beachOf(Check.USUAL);
        for (int n : new int[] {0, 61, -1, Integer.MIN_VALUE, Integer.MAX_VALUE}) {
            Check.refused(x, "minute(" + n + ")", x.minute(n), -1, 2);
        }
        Check.granted(x, "minute(2)", x.minute(2), 4);
        Check.granted(x, "minute(1)", x.minute(1), 12);
        Check.granted(x, "minute(11)", x.minute(11), 11);
        Check.due("size(8)", x.size(8), 14);
        Check.granted(x, "minute(60)", x.minute(60), 0);
        for (int i = 0; i < 15; i++) {
            x.minute(60);
        }
        Check.due("size(8)", x.size(8), 974);
        Check.refused(x, "minute(26)", x.minute(26), -1, 3);
        Check.granted(x, "minute(25)", x.minute(25), 0);
        Check.due("size(8)", x.size(8), 999);
        Check.refused(x, "minute(1)", x.minute(1), -1, 3);
        Check.refused(x, "minute(61) at the last one", x.minute(61), -1, 2);
    }

    private static void lifting() {
        ShoreGuards x = Check.beachOf("beach limit 10 heat 0 slips 0;person a reader at 10 thought 2 by 1;person b reader at 40 thought 2 by 1;"
            + "person c child at 12 thought 2 by 1;post s at 11 off 5;post t at 10 off 1;post u at 12 off 3;post v at 40 off 11;manned s;manned v");
        Check.refused(x, "lift(3)", x.lift(3), -1, 1);
        Check.refused(x, "lift(-1)", x.lift(-1), -1, 1);
        Check.refused(x, "lift(0) at minute 0", x.lift(0), -1, 5);
        x.minute(2);
        Check.refused(x, "lift(1), not REACHED", x.lift(1), -1, 6);
        Check.refused(x, "lift(2), who never SINKS", x.lift(2), -1, 5);
        Check.granted(x, "lift(0)", x.lift(0), 0);
        Check.due("person(0, 6)", x.person(0, 6), 1);
        Check.refused(x, "lift(0) again", x.lift(0), -1, 5);
        Check.due("undo()", x.undo(), true);
        Check.due("person(0, 6) undone", x.person(0, 6), 0);
        x.man(1);
        x.man(2);
        Check.granted(x, "lift(0) by the least TIME", x.lift(0), 1);
        // He still sits there: the child has company.
        Check.due("person(2, 4)", x.person(2, 4), -2);
        x.undo();
        x.leave(1);
        Check.granted(x, "lift(0), the first of like ones", x.lift(0), 2);
        x.undo();
        x.leave(0);
        x.leave(2);
        Check.refused(x, "lift(0), far manned", x.lift(0), -1, 6);
        x.leave(3);
        Check.refused(x, "lift(0), none manned", x.lift(0), -1, 6);
        x.man(0);
        x.minute(9);
        Check.due("size(8)", x.size(8), 11);
        Check.granted(x, "lift(0) at the last minute", x.lift(0), 0);
        x.undo();
        x.minute(1);
        Check.refused(x, "lift(0), LOST", x.lift(0), -1, 5);
    }

    private static void undoing() {
        ShoreGuards x = Check.beachOf(Check.USUAL);
        Check.refused(x, "undo()", x.undo(), 6);
        x.man(1);
        x.leave(0);
        x.seat(3, 33);
        x.minute(6);
        Check.due("size(9)", x.size(9), 4);
        Check.granted(x, "undo() minute", x.undo(), true);
        Check.due("size(8)", x.size(8), 0);
        Check.granted(x, "undo() seat", x.undo(), true);
        Check.due("person(3, 1)", x.person(3, 1), 50);
        Check.due("person(3, 4)", x.person(3, 4), 3);
        Check.granted(x, "undo() leave", x.undo(), true);
        Check.due("post(0, 2)", x.post(0, 2), 1);
        Check.due("post(1, 2)", x.post(1, 2), 1);
        Check.granted(x, "undo() man", x.undo(), true);
        Check.due("post(1, 2)", x.post(1, 2), 0);
        Check.due("reached()", x.reached(), 3);
        Check.refused(x, "undo() of none", x.undo(), 6);
        // Sixteen are kept.
        for (int i = 1; i <= 20; i++) {
            x.minute(1);
            Check.due("size(9) behind " + i, x.size(9), Math.min(i, 16));
        }
        for (int i = 1; i <= 16; i++) {
            Check.granted(x, "undo() " + i, x.undo(), true);
            Check.due("size(8)", x.size(8), 20 - i);
        }
        Check.refused(x, "undo() 17", x.undo(), 6);
        Check.due("size(8)", x.size(8), 4);
        Check.due("size(9)", x.size(9), 0);
        // Refused acts aren't kept, and what only asks isn't an act.
        x.man(0);
        x.seats();
        x.image();
        Check.refused(x, "undo() behind refused acts", x.undo(), 6);
    }

    private static void images() {
        ShoreGuards x = Check.beachOf(Check.USUAL);
        Check.refused(x, "back(0), none yet", x.back(0), 1);
        Check.granted(x, "image()", x.image(), 0);
        x.man(1);
        x.seat(3, 33);
        x.minute(6);
        x.lift(1);
        Check.granted(x, "image()", x.image(), 1);
        Check.due("size(9) behind image()", x.size(9), 4);
        Check.granted(x, "image()", x.image(), 2);
        Check.refused(x, "image(), no room", x.image(), -1, 3);
        Check.due("size(10)", x.size(10), 3);
        x.leave(1);
        Check.granted(x, "back(0)", x.back(0), true);
        Check.due("size(9) behind back()", x.size(9), 0);
        Check.refused(x, "undo() behind back()", x.undo(), 6);
        Check.due("size(10) behind back()", x.size(10), 3);
        Check.due("size(8)", x.size(8), 0);
        Check.due("person(3, 1)", x.person(3, 1), 50);
        Check.due("person(1, 6)", x.person(1, 6), 0);
        Check.due("post(1, 2)", x.post(1, 2), 0);
        Check.due("sinkers()", x.sinkers(), 15);
        x.minute(1);
        Check.granted(x, "back(1)", x.back(1), true);
        Check.due("size(8)", x.size(8), 6);
        Check.due("person(3, 1)", x.person(3, 1), 33);
        Check.due("person(1, 6)", x.person(1, 6), 1);
        Check.due("post(1, 2)", x.post(1, 2), 1);
        Check.due("sinkers()", x.sinkers(), 5);
        for (int image : new int[] {-1, 3, Integer.MIN_VALUE, Integer.MAX_VALUE}) {
            Check.refused(x, "back(" + image + ")", x.back(image), 1);
        }
    }
}
