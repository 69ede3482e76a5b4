import java.util.ArrayList;
import java.util.List;

/** Every call of the face, with arguments that the usual beach grants. */
final class Calls {
    interface Call {
        long of(ShoreGuards x);
    }

    /** What trouble stands for a call that tells no number. */
    static final int TELLS_NONE = -1;

    static final class Entry {
        final String name;
        final Call call;
        /** What is answered without a BEACH, and by which TROUBLE. */
        final long bare;
        final int trouble;

        Entry(String name, long bare, int trouble, Call call) {
            this.name = name;
            this.call = call;
            this.bare = bare;
            this.trouble = trouble;
        }

        boolean mayBeRefused() {
            return trouble != TELLS_NONE;
        }
    }

    private Calls() {
    }

    private static long bit(boolean b) {
        return b ? 1 : 0;
    }

    /** All that only ask and may be refused. */
    static List<Entry> asking() {
        List<Entry> all = new ArrayList<>();
        all.add(new Entry("person", -1, 1, x -> x.person(3, 8)));
        all.add(new Entry("post", -1, 1, x -> x.post(1, 3)));
        all.add(new Entry("time", -1, 1, x -> x.time(1, 3)));
        all.add(new Entry("sinkers", -1, 1, x -> x.sinkers()));
        all.add(new Entry("first", -1, 1, x -> x.first()));
        all.add(new Entry("under", -1, 1, x -> x.under(3)));
        all.add(new Entry("lost", -1, 1, x -> x.lost(14)));
        all.add(new Entry("worstMinute", -1, 1, x -> x.worstMinute()));
        all.add(new Entry("reached", -1, 1, x -> x.reached()));
        all.add(new Entry("nearest", -1, 1, x -> x.nearest(3)));
        all.add(new Entry("cover", -1, 1, x -> x.cover()));
        all.add(new Entry("covers", -1, 1, x -> x.covers()));
        all.add(new Entry("bestPost", -1, 1, x -> x.bestPost()));
        all.add(new Entry("bestPlace", -1, 1, x -> x.bestPlace(4)));
        all.add(new Entry("limitFor", -1, 1, x -> x.limitFor()));
        all.add(new Entry("alone", -1, 1, x -> x.alone(0)));
        all.add(new Entry("aloneAt", -1, 1, x -> x.aloneAt(0, 0)));
        all.add(new Entry("aloneFree", -1, 1, x -> x.aloneFree(0)));
        all.add(new Entry("bestAlone", -1, 1, x -> x.bestAlone()));
        all.add(new Entry("seats", -1, 1, x -> x.seats()));
        all.add(new Entry("seatOf", -1, 1, x -> x.seatOf(3)));
        all.add(new Entry("company", -1, 1, x -> x.company(3)));
        all.add(new Entry("odds", -1, 1, x -> x.odds(1, true)));
        all.add(new Entry("likeliest", -1, 1, x -> x.likeliest()));
        all.add(new Entry("among", -1, 1, x -> x.among(9, true)));
        all.add(new Entry("suspects", -1, 1, x -> x.suspects()));
        all.add(new Entry("flag", -1, 1, x -> x.flag(2)));
        all.add(new Entry("teach", -1, 1, x -> x.teach()));
        all.add(new Entry("hears", -1, 1, x -> x.hears(0)));
        all.add(new Entry("looks", -100, 1, x -> x.looks(2, true, false, false)));
        all.add(new Entry("rests", -1, 1, x -> x.rests(2)));
        all.add(new Entry("rest", -1, 1, x -> x.rest(0)));
        all.add(new Entry("safe", -1, 1, x -> x.safe(true)));
        all.add(new Entry("sinking", -1, 1, x -> x.sinking(1, true)));
        all.add(new Entry("mean", -1, 1, x -> x.mean(true)));
        all.add(new Entry("afternoons", -1, 1, x -> x.afternoons(3, 0, 90)));
        all.add(new Entry("worst", -1, 1, x -> x.worst(0, 2)));
        return all;
    }

    /** All that change something and may be refused, but for beach(). */
    static List<Entry> changing() {
        List<Entry> all = new ArrayList<>();
        all.add(new Entry("man", 0, 1, x -> bit(x.man(1))));
        all.add(new Entry("leave", 0, 1, x -> bit(x.leave(0))));
        all.add(new Entry("seat", -1, 1, x -> x.seat(3, 33)));
        all.add(new Entry("minute", -1, 1, x -> x.minute(6)));
        all.add(new Entry("lift", -1, 1, x -> x.lift(1)));
        all.add(new Entry("undo", 0, 6, x -> bit(x.undo())));
        all.add(new Entry("image", -1, 1, x -> x.image()));
        all.add(new Entry("back", 0, 1, x -> bit(x.back(0))));
        return all;
    }

    /** All of which no number is told. */
    static List<Entry> tellingNone() {
        List<Entry> all = new ArrayList<>();
        all.add(new Entry("size", 0, TELLS_NONE, x -> x.size(3)));
        all.add(new Entry("led", Check.THREW, TELLS_NONE, x -> Check.led(x, 1)));
        all.add(new Entry("feed", 20, TELLS_NONE, x -> x.feed(0, 0, 0, 0, 0)));
        return all;
    }

    static List<Entry> all() {
        List<Entry> all = asking();
        all.addAll(changing());
        all.addAll(tellingNone());
        return all;
    }

    /** How all is that acts change, as a text: few calls, of which an object has only 512. */
    static String scene(ShoreGuards x) {
        StringBuilder text = new StringBuilder();
        for (int what = 8; what <= 10; what++) {
            text.append(" size").append(what).append('=').append(x.size(what));
        }
        int people = x.size(3);
        for (int p = 0; p < people; p++) {
            for (int what : new int[] {1, 4, 5, 6, 7}) {
                text.append(" person").append(p).append(',').append(what).append('=').append(x.person(p, what));
            }
        }
        int posts = x.size(4);
        for (int q = 0; q < posts; q++) {
            for (int what = 2; what <= 3; what++) {
                text.append(" post").append(q).append(',').append(what).append('=').append(x.post(q, what));
            }
        }
        return text.append(" sinkers=").append(x.sinkers()).append(" reached=").append(x.reached()).toString();
    }

    /** All that can be asked of a BEACH, as a text that two objects can be compared by. */
    static String snapshot(ShoreGuards x) {
        StringBuilder text = new StringBuilder();
        for (int what = 0; what <= 11; what++) {
            text.append(" size").append(what).append('=').append(x.size(what));
        }
        for (int p = 0; p < 6; p++) {
            for (int what = 0; what <= 8; what++) {
                text.append(" person").append(p).append(',').append(what).append('=').append(x.person(p, what));
            }
            text.append(" seatOf").append(p).append('=').append(x.seatOf(p));
            text.append(" led").append(p).append('=').append(Check.led(x, p));
        }
        for (int q = 0; q < 5; q++) {
            for (int what = 0; what <= 3; what++) {
                text.append(" post").append(q).append(',').append(what).append('=').append(x.post(q, what));
            }
        }
        for (Entry e : asking()) {
            text.append(' ').append(e.name).append('=').append(e.call.of(x));
        }
        return text.toString();
    }
}
