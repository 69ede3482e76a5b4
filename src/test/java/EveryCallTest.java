import java.lang.reflect.Method;
import java.lang.reflect.Modifier;
import java.util.Set;
import java.util.TreeSet;

/**
 * Every call before the first BEACH, behind a BEACH that was refused, and on a BEACH, with what
 * trouble(), where() and fault() answer behind each of them.
 */
public final class EveryCallTest {
    private static final String HEAD = "beach limit 5 heat 2 slips 5";
    /** A FAULT 2: nobody has been told. */
    private static final String UNTOLD = HEAD + "; waved zz";
    private static final int UNTOLD_AT = HEAD.length() + 8;

    private EveryCallTest() {
    }

    public static void main(String[] args) {
        listIsWhole();
        beforeTheFirst();
        wrongNumbersBeforeTheFirst();
        behindRefusedNumber();
        behindFault();
        granted();
        standing();
        Check.finish();
    }

    private static void listIsWhole() {
        Set<String> due = new TreeSet<>(Set.of("beach", "fault", "where", "trouble"));
        for (Calls.Entry e : Calls.all()) {
            due.add(e.name);
        }
        Set<String> seen = new TreeSet<>();
        for (Method m : ShoreGuards.class.getDeclaredMethods()) {
            if (Modifier.isPublic(m.getModifiers())) {
                seen.add(m.getName());
            }
        }
        Check.due("all calls of the face are tried: " + seen + due, seen.equals(due), true);
    }

    private static void told(ShoreGuards x, String behind, int trouble, int where, int fault) {
        Check.due("trouble() behind " + behind, x.trouble(), trouble);
        Check.due("where() behind " + behind, x.where(), where);
        Check.due("fault() behind " + behind, x.fault(), fault);
        // Asking for them changes none of them.
        Check.due("trouble() again behind " + behind, x.trouble(), trouble);
        Check.due("where() again behind " + behind, x.where(), where);
        Check.due("fault() again behind " + behind, x.fault(), fault);
    }

    private static void beforeTheFirst() {
        told(new ShoreGuards(), "new", 0, -1, 0);
        for (Calls.Entry e : Calls.all()) {
            ShoreGuards x = new ShoreGuards();
            Check.due("new " + e.name, e.call.of(x), e.bare);
            told(x, "new " + e.name, e.mayBeRefused() ? e.trouble : 0, -1, 0);
            // Behind another refusal the number is this call's own.
            ShoreGuards y = new ShoreGuards();
            Check.refused(y, "new undo()", y.undo(), 6);
            Check.due("new " + e.name, e.call.of(y), e.bare);
            told(y, "undo(), " + e.name, e.mayBeRefused() ? e.trouble : 6, -1, 0);
        }
    }

    /** There is no BEACH: that is told ahead of a number. */
    private static void wrongNumbersBeforeTheFirst() {
        ShoreGuards x = new ShoreGuards();
        Check.refused(x, "under(-1)", x.under(-1), -1, 1);
        Check.refused(x, "lost(201)", x.lost(201), -1, 1);
        Check.refused(x, "bestPlace(0)", x.bestPlace(0), -1, 1);
        Check.refused(x, "among(-1, true)", x.among(-1, true), -1, 1);
        Check.refused(x, "flag(7)", x.flag(7), -1, 1);
        Check.refused(x, "looks(10, ..)", x.looks(10, true, true, false), -100, 1);
        Check.refused(x, "rests(-1)", x.rests(-1), -1, 1);
        Check.refused(x, "rest(10)", x.rest(10), -1, 1);
        Check.refused(x, "sinking(7, true)", x.sinking(7, true), -1, 1);
        Check.refused(x, "afternoons(0, -1, 91)", x.afternoons(0, -1, 91), -1, 1);
        Check.refused(x, "worst(65537, 91)", x.worst(65537, 91), -1, 1);
        Check.refused(x, "seat(0, 100)", x.seat(0, 100), -1, 1);
        Check.refused(x, "minute(61)", x.minute(61), -1, 1);
        Check.refused(x, "back(-1)", x.back(-1), 1);
        Check.due("size(12)", x.size(12), -1);
        Check.due("size(-1)", x.size(-1), -1);
        Check.due("trouble() behind size(-1)", x.trouble(), 1);
    }

    private static void behindRefusedNumber() {
        for (int n : new int[] {-1, 1, Integer.MIN_VALUE, Integer.MAX_VALUE}) {
            for (Calls.Entry e : Calls.all()) {
                ShoreGuards x = new ShoreGuards();
                Check.due("beach(" + n + ") of no tape", x.beach(n), -1);
                told(x, "beach(" + n + ")", 2, -1, 0);
                Check.due(e.name + " behind beach(" + n + ")", e.call.of(x), e.bare);
                told(x, e.name + " behind beach(" + n + ")", e.mayBeRefused() ? e.trouble : 2, -1, 0);
            }
        }
    }

    private static void behindFault() {
        for (Calls.Entry e : Calls.all()) {
            ShoreGuards x = new ShoreGuards();
            Check.due("beach with a FAULT", Check.tell(x, UNTOLD), -1);
            told(x, "a FAULT", 4, UNTOLD_AT, 2);
            Check.due(e.name + " behind a FAULT", e.call.of(x), e.bare);
            if (e.mayBeRefused()) {
                told(x, e.name + " behind a FAULT", e.trouble, -1, 2);
            } else {
                told(x, e.name + " behind a FAULT", 4, UNTOLD_AT, 2);
            }
            // A number refused keeps the FAULT, but not its place.
            Check.due("beach(-1) behind a FAULT", x.beach(-1), -1);
            told(x, "beach(-1) behind a FAULT", 2, -1, 2);
        }
    }

    /** With a BEACH of which all that is asked for is so. */
    private static ShoreGuards ready(Calls.Entry e) {
        ShoreGuards x = Check.beachOf(Check.USUAL);
        if (e.name.equals("lift")) {
            x.minute(6);
        }
        if (e.name.equals("undo")) {
            x.man(1);
        }
        if (e.name.equals("back")) {
            x.image();
        }
        return x;
    }

    private static void granted() {
        for (Calls.Entry e : Calls.all()) {
            ShoreGuards x = ready(e);
            Check.refused(x, "person(4, 0)", x.person(4, 0), -1, 1);
            e.call.of(x);
            told(x, e.name + " on a BEACH", e.mayBeRefused() ? 0 : 1, -1, 0);
        }
    }

    /** A BEACH that is refused leaves the one before as it was. */
    private static void standing() {
        for (Calls.Entry e : Calls.all()) {
            ShoreGuards twin = ready(e);
            long due = e.call.of(twin);
            String all = Calls.snapshot(twin);

            ShoreGuards x = ready(e);
            Check.due("beach with a FAULT", Check.tell(x, UNTOLD), -1);
            told(x, "a FAULT behind a BEACH", 4, UNTOLD_AT, 2);
            Check.due(e.name + " behind a FAULT", e.call.of(x), due);
            told(x, e.name + " behind a FAULT", e.mayBeRefused() ? 0 : 4, e.mayBeRefused() ? -1 : UNTOLD_AT, 2);
            Check.due("all behind a FAULT and " + e.name, Calls.snapshot(x).equals(all), true);

            ShoreGuards y = ready(e);
            Check.due("beach(1) of no tape", y.beach(1), -1);
            told(y, "a number behind a BEACH", 2, -1, 0);
            Check.due(e.name + " behind a number", e.call.of(y), due);
            told(y, e.name + " behind a number", e.mayBeRefused() ? 0 : 2, -1, 0);
            Check.due("all behind a number and " + e.name, Calls.snapshot(y).equals(all), true);
        }
    }
}
