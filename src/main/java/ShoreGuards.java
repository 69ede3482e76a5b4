import java.util.NoSuchElementException;

/**
 * People on a beach, the posts that reach them and the guards who man these.
 * The document's terms stand here in capitals. All rows are made with the object
 * and used again, so that no call makes a new one.
 */
public final class ShoreGuards {
    /** There is none; refused. */
    public static final int NONE = -1;

    private static final int NEVER = -2;
    private static final int REFUSED_LOOK = -100;

    private static final int PEOPLE_ROOM = 6;
    private static final int POSTS_ROOM = 5;
    private static final int KNOWINGS_ROOM = 9;
    private static final int TAPE_ROOM = 900;
    private static final int ACTS_ROOM = 16;
    private static final int IMAGES_ROOM = 3;

    private static final int LAST_PLACE = 99;
    private static final int MOST_OFF = 40;
    private static final int LAST_ASKED_MINUTE = 200;
    private static final int LAST_MINUTE = 999;
    private static final int NEAR_PLACES = 5;
    private static final int HUNDRED = 100;
    private static final int LAST_SEED = 65536;
    private static final int MOST_AFTERNOONS = 90;
    private static final int MOST_FEAR = 9;

    private static final int READER = 0;
    private static final int TALKER = 1;
    private static final int SLEEPER = 2;
    private static final int CHILD = 3;

    private static final int WAVED = 1;
    private static final int STILL = 2;

    private static final int NONE_SUCH = 1;
    private static final int A_NUMBER = 2;
    private static final int NO_ROOM = 3;
    private static final int A_FAULT = 4;
    private static final int NOT_SO = 5;
    private static final int THERE_IS_NONE = 6;

    private final Tape tape = new Tape();
    private final TextReader reader = new TextReader(tape.bytes);
    private final Shore shore = new Shore();
    private final Past past = new Past();
    private final Alone lone = new Alone();
    private final Seating seating = new Seating();
    private final Signs signs = new Signs();
    private final Chance chance = new Chance();
    private final Ratio ratio = new Ratio();
    private Told draft = new Told();
    private boolean hasBeach = false;
    private int latestTrouble = 0;

    /** No BEACH. */
    public ShoreGuards() {
    }

    // ---- the beach

    /** Puts twenty bytes behind THE TAPE, of each number the highest first. */
    public int feed(int a, int b, int c, int d, int e) {
        if (!tape.hasRoomFor(20)) {
            return NONE;
        }
        tape.put(a);
        tape.put(b);
        tape.put(c);
        tape.put(d);
        tape.put(e);
        return tape.length;
    }

    /** Takes the first n bytes of THE TAPE as the BEACH. */
    public int beach(int n) {
        if (n < 0 || n > tape.length) {
            return refuse(A_NUMBER);
        }
        boolean told = reader.read(n, draft);
        tape.length = 0;
        if (!told) {
            return refuse(A_FAULT);
        }
        Told before = shore.told;
        shore.begin(draft);
        // The former BEACH's rows take the next text, so that one with a FAULT harms nothing.
        draft = before;
        past.forget();
        signs.weigh(shore.told);
        hasBeach = true;
        return grant(shore.told.people);
    }

    /** The FAULT of the latest beach() that was not refused by its number. */
    public int fault() {
        return reader.fault;
    }

    /** The place of the FAULT, if the latest call that may be refused was by one. */
    public int where() {
        return latestTrouble == A_FAULT ? reader.faultPlace : NONE;
    }

    // ---- now

    /** What is asked of a person. */
    public int person(int p, int what) {
        if (!isPerson(p) || what < 0 || what > 8) {
            return refuse(NONE_SUCH);
        }
        return grant(shore.ofPerson(p, what));
    }

    /** What is asked of a post. */
    public int post(int q, int what) {
        if (!isPost(q) || what < 0 || what > 3) {
            return refuse(NONE_SUCH);
        }
        return grant(shore.ofPost(q, what));
    }

    /** The TIME of a post to a person. */
    public int time(int q, int p) {
        if (!isPost(q) || !isPerson(p)) {
            return refuse(NONE_SUCH);
        }
        return grant(shore.timeTo(q, p));
    }

    /** People who SINK at all, as bits. */
    public int sinkers() {
        if (!hasBeach) {
            return refuse(NONE_SUCH);
        }
        return grant(shore.sinkerBits);
    }

    /** The one who SINKS first. */
    public int first() {
        if (!hasBeach) {
            return refuse(NONE_SUCH);
        }
        return grant(shore.firstSinker());
    }

    /** People who are UNDER at a minute, as bits. */
    public int under(int minute) {
        if (!hasBeach) {
            return refuse(NONE_SUCH);
        }
        if (!isAskedMinute(minute)) {
            return refuse(A_NUMBER);
        }
        return grant(shore.underBits(minute));
    }

    /** People who are LOST at a minute, as bits. */
    public int lost(int minute) {
        if (!hasBeach) {
            return refuse(NONE_SUCH);
        }
        if (!isAskedMinute(minute)) {
            return refuse(A_NUMBER);
        }
        return grant(shore.lostBits(minute));
    }

    /** The minute at which most are UNDER. */
    public int worstMinute() {
        if (!hasBeach) {
            return refuse(NONE_SUCH);
        }
        return grant(shore.minuteOfMostUnder());
    }

    // ---- posts

    /** People who SINK and are REACHED by a manned post, as bits. */
    public int reached() {
        if (!hasBeach) {
            return refuse(NONE_SUCH);
        }
        return grant(shore.sinkerBits & shore.coveredBits);
    }

    /** The manned post of least TIME to a person. */
    public int nearest(int p) {
        if (!isPerson(p)) {
            return refuse(NONE_SUCH);
        }
        return grant(shore.nearestManned(p));
    }

    /** The fewest posts that REACH all who SINK, as bits. */
    public int cover() {
        if (!hasBeach) {
            return refuse(NONE_SUCH);
        }
        return grant(shore.fewestPosts());
    }

    /** How many sets of posts REACH all who SINK. */
    public int covers() {
        if (!hasBeach) {
            return refuse(NONE_SUCH);
        }
        return grant(shore.coveringSets());
    }

    /** The post not manned by which most more are REACHED. */
    public int bestPost() {
        if (!hasBeach) {
            return refuse(NONE_SUCH);
        }
        return grant(shore.postOfMostMore());
    }

    /** The place from which a new post, so far off, would REACH most who SINK. */
    public int bestPlace(int off) {
        if (!hasBeach) {
            return refuse(NONE_SUCH);
        }
        if (off < 1 || off > MOST_OFF) {
            return refuse(A_NUMBER);
        }
        return grant(shore.placeOfMostReached(off));
    }

    /** The least limit by which manned posts would REACH all who SINK. */
    public int limitFor() {
        if (!hasBeach) {
            return refuse(NONE_SUCH);
        }
        return grant(shore.leastLimit());
    }

    // ---- one guard

    /** How many one guard ALONE has out from a post. */
    public int alone(int q) {
        if (!isPost(q)) {
            return refuse(NONE_SUCH);
        }
        lone.search(shore, q);
        return grant(lone.most);
    }

    /** The i-th whom one guard ALONE has out from a post. */
    public int aloneAt(int q, int i) {
        if (!isPost(q)) {
            return refuse(NONE_SUCH);
        }
        lone.search(shore, q);
        if (i < 0 || i >= lone.most) {
            return refuse(NONE_SUCH);
        }
        return grant(lone.best[i]);
    }

    /** The minute at which one guard ALONE is free behind all of his row. */
    public int aloneFree(int q) {
        if (!isPost(q)) {
            return refuse(NONE_SUCH);
        }
        lone.search(shore, q);
        return grant(lone.freeBehind);
    }

    /** The post from which one guard ALONE has most out. */
    public int bestAlone() {
        if (!hasBeach) {
            return refuse(NONE_SUCH);
        }
        int best = NEVER;
        int most = NONE;
        for (int q = 0; q < shore.told.posts; q++) {
            lone.search(shore, q);
            if (lone.most > most) {
                most = lone.most;
                best = q;
            }
        }
        return grant(best);
    }

    // ---- seats

    /** How many aren't REACHED by the best SEATS. */
    public int seats() {
        if (!hasBeach) {
            return refuse(NONE_SUCH);
        }
        seating.search(shore);
        return grant(seating.fewest);
    }

    /** The place of a person by the best SEATS. */
    public int seatOf(int p) {
        if (!isPerson(p)) {
            return refuse(NONE_SUCH);
        }
        seating.search(shore);
        return grant(shore.now.place[seating.best[p]]);
    }

    /** The place by which a person, seated there, makes fewest SINK. */
    public int company(int p) {
        if (!isPerson(p)) {
            return refuse(NONE_SUCH);
        }
        return grant(shore.placeOfFewestSinkers(p));
    }

    // ---- signs

    /** How likely a person is sinking by SIGNS. */
    public long odds(int p, boolean lower) {
        if (!isPerson(p)) {
            return refuse(NONE_SUCH);
        }
        ratio.reduce(signs.weight[p], signs.total);
        return grantRatio(lower);
    }

    /** The likeliest to be sinking by SIGNS. */
    public int likeliest() {
        if (!hasBeach) {
            return refuse(NONE_SUCH);
        }
        return grant(signs.heaviest());
    }

    /** How likely one of some people is sinking by SIGNS. */
    public long among(int people, boolean lower) {
        if (!hasBeach || people < 0 || people > shore.everybody()) {
            return refuse(NONE_SUCH);
        }
        ratio.reduce(signs.weightOf(people), signs.total);
        return grantRatio(lower);
    }

    /** The fewest people among whom he is by more than half, as bits. */
    public int suspects() {
        if (!hasBeach) {
            return refuse(NONE_SUCH);
        }
        return grant(signs.fewestByHalf());
    }

    // ---- flags, teaching

    /** The first minute at which so many have begun to SINK. */
    public int flag(int many) {
        if (!hasBeach) {
            return refuse(NONE_SUCH);
        }
        if (many < 1 || many > PEOPLE_ROOM) {
            return refuse(A_NUMBER);
        }
        return grant(shore.minuteOfSoMany(many));
    }

    /** The fewest people to be taught, as bits. */
    public int teach() {
        if (!hasBeach) {
            return refuse(NONE_SUCH);
        }
        return grant(shore.told.fewestTaught());
    }

    /** People who come to hear of it from a person, as bits. */
    public int hears(int p) {
        if (!isPerson(p)) {
            return refuse(NONE_SUCH);
        }
        return grant(shore.told.hearersOf(p));
    }

    // ---- guard and wife

    /** What the guard, or the wife, has if each looks or doesn't. */
    public int looks(int fear, boolean guard, boolean wife, boolean ofWife) {
        if (!hasBeach) {
            refuse(NONE_SUCH);
            return REFUSED_LOOK;
        }
        if (!isFear(fear)) {
            refuse(A_NUMBER);
            return REFUSED_LOOK;
        }
        return grant(ofWife ? gain(fear, wife, guard) : gain(fear, guard, wife));
    }

    /** How many RESTS. */
    public int rests(int fear) {
        if (!hasBeach) {
            return refuse(NONE_SUCH);
        }
        if (!isFear(fear)) {
            return refuse(A_NUMBER);
        }
        int many = 0;
        for (int pair = 0; pair < 4; pair++) {
            if (isRest(fear, (pair & 2) != 0, (pair & 1) != 0)) {
                many++;
            }
        }
        return grant(many);
    }

    /** The first REST. */
    public int rest(int fear) {
        if (!hasBeach) {
            return refuse(NONE_SUCH);
        }
        if (!isFear(fear)) {
            return refuse(A_NUMBER);
        }
        for (int pair = 0; pair < 4; pair++) {
            if (isRest(fear, (pair & 2) != 0, (pair & 1) != 0)) {
                return grant(((pair & 2) != 0 ? 10 : 0) + (pair & 1));
            }
        }
        return grant(NEVER);
    }

    // ---- chance, draws

    /** How likely nobody is lost by CHANCE. */
    public long safe(boolean lower) {
        if (!hasBeach) {
            return refuse(NONE_SUCH);
        }
        chance.nobodyLost(shore, ratio);
        return grantRatio(lower);
    }

    /** How likely just so many sink by CHANCE. */
    public long sinking(int many, boolean lower) {
        if (!hasBeach) {
            return refuse(NONE_SUCH);
        }
        if (many < 0 || many > PEOPLE_ROOM) {
            return refuse(A_NUMBER);
        }
        chance.soManySink(shore, many, ratio);
        return grantRatio(lower);
    }

    /** The mean of how many are lost by CHANCE. */
    public long mean(boolean lower) {
        if (!hasBeach) {
            return refuse(NONE_SUCH);
        }
        chance.meanLost(shore, ratio);
        return grantRatio(lower);
    }

    /** In how many of n AFTERNOONS by a SEED a person is lost. */
    public int afternoons(int p, int seed, int n) {
        if (!isPerson(p)) {
            return refuse(NONE_SUCH);
        }
        if (!isDraws(seed, n)) {
            return refuse(A_NUMBER);
        }
        return grant(chance.timesLost(shore, p, seed, n));
    }

    /** The most who sink in one of n AFTERNOONS by a SEED. */
    public int worst(int seed, int n) {
        if (!hasBeach) {
            return refuse(NONE_SUCH);
        }
        if (!isDraws(seed, n)) {
            return refuse(A_NUMBER);
        }
        return grant(chance.mostAtOnce(shore, seed, n));
    }

    // ---- acts

    /** MAN a post. */
    public boolean man(int q) {
        if (!isPost(q)) {
            return deny(NONE_SUCH);
        }
        if (shore.isManned(q)) {
            return deny(NOT_SO);
        }
        past.keep(shore.now);
        shore.now.manned |= 1 << q;
        return acted();
    }

    /** LEAVE a post. */
    public boolean leave(int q) {
        if (!isPost(q)) {
            return deny(NONE_SUCH);
        }
        if (!shore.isManned(q)) {
            return deny(NOT_SO);
        }
        past.keep(shore.now);
        shore.now.manned &= ~(1 << q);
        return acted();
    }

    /** SEAT a person at a place. */
    public int seat(int p, int place) {
        if (!isPerson(p)) {
            return refuse(NONE_SUCH);
        }
        if (place < 0 || place > LAST_PLACE) {
            return refuse(A_NUMBER);
        }
        if (shore.now.place[p] == place) {
            return refuse(NOT_SO);
        }
        past.keep(shore.now);
        shore.now.place[p] = place;
        acted();
        return shore.sinkAt[p];
    }

    /** MINUTE: so many of them go by. */
    public int minute(int n) {
        if (!hasBeach) {
            return refuse(NONE_SUCH);
        }
        if (n < 1 || n > 60) {
            return refuse(A_NUMBER);
        }
        if (shore.now.minute + n > LAST_MINUTE) {
            return refuse(NO_ROOM);
        }
        past.keep(shore.now);
        shore.now.minute += n;
        acted();
        return shore.underBits(shore.now.minute);
    }

    /** LIFT one who is UNDER. */
    public int lift(int p) {
        if (!isPerson(p)) {
            return refuse(NONE_SUCH);
        }
        if (!shore.isUnder(p, shore.now.minute)) {
            return refuse(NOT_SO);
        }
        int q = shore.nearestManned(p);
        if (q < 0 || !shore.reaches(q, p)) {
            return refuse(THERE_IS_NONE);
        }
        past.keep(shore.now);
        shore.now.lifted |= 1 << p;
        acted();
        return q;
    }

    /** UNDO the latest act. */
    public boolean undo() {
        if (!past.takeBack(shore.now)) {
            return deny(THERE_IS_NONE);
        }
        return acted();
    }

    /** Keeps an IMAGE. */
    public int image() {
        if (!hasBeach) {
            return refuse(NONE_SUCH);
        }
        if (past.images >= IMAGES_ROOM) {
            return refuse(NO_ROOM);
        }
        return grant(past.keepImage(shore.now));
    }

    /** Goes back to an IMAGE. */
    public boolean back(int image) {
        if (!past.bringBack(image, shore.now)) {
            return deny(NONE_SUCH);
        }
        return acted();
    }

    // ---- what is told

    /** The i-th person who SINKS and is REACHED by no manned post. */
    public int led(int i) throws NoSuchElementException {
        int behind = i;
        int unreached = hasBeach ? shore.sinkerBits & ~shore.coveredBits : 0;
        for (int p = 0; p < PEOPLE_ROOM; p++) {
            if (has(unreached, p)) {
                if (behind == 0) {
                    return p;
                }
                behind--;
            }
        }
        throw new NoSuchElementException();
    }

    /** How many there are of what is asked. */
    public int size(int what) {
        if (what == 11) {
            return tape.length;
        }
        if (what < 0 || what > 11) {
            return NONE;
        }
        if (!hasBeach) {
            return 0;
        }
        switch (what) {
            case 8: return shore.now.minute;
            case 9: return past.acts;
            case 10: return past.images;
            default: return shore.told.count(what);
        }
    }

    /** TROUBLE of the latest call that may be refused. */
    public int trouble() {
        return latestTrouble;
    }

    private int refuse(int number) {
        latestTrouble = number;
        return NONE;
    }

    private boolean deny(int number) {
        latestTrouble = number;
        return false;
    }

    private int grant(int answer) {
        latestTrouble = 0;
        return answer;
    }

    private long grantRatio(boolean lower) {
        latestTrouble = 0;
        return lower ? ratio.lower : ratio.upper;
    }

    private boolean acted() {
        shore.settle();
        latestTrouble = 0;
        return true;
    }

    private boolean isPerson(int p) {
        return hasBeach && p >= 0 && p < shore.told.people;
    }

    private boolean isPost(int q) {
        return hasBeach && q >= 0 && q < shore.told.posts;
    }

    private static boolean isAskedMinute(int minute) {
        return minute >= 0 && minute <= LAST_ASKED_MINUTE;
    }

    private static boolean isFear(int fear) {
        return fear >= 0 && fear <= MOST_FEAR;
    }

    private static boolean isDraws(int seed, int n) {
        return seed >= 0 && seed <= LAST_SEED && n >= 0 && n <= MOST_AFTERNOONS;
    }

    private static boolean has(int bits, int number) {
        return (bits >> number & 1) != 0;
    }

    private static int gain(int fear, boolean looking, boolean otherLooking) {
        if (looking) {
            return otherLooking ? 3 : 1 - fear;
        }
        return otherLooking ? 2 : 0;
    }

    private static boolean isRest(int fear, boolean guard, boolean wife) {
        return gain(fear, guard, wife) >= gain(fear, !guard, wife)
            && gain(fear, wife, guard) >= gain(fear, !wife, guard);
    }

    /** THE TAPE. */
    private static final class Tape {
        final byte[] bytes = new byte[TAPE_ROOM];
        int length = 0;

        boolean hasRoomFor(int more) {
            return length + more <= TAPE_ROOM;
        }

        void put(int number) {
            for (int shift = 24; shift >= 0; shift -= 8) {
                if (length >= 0 && length < TAPE_ROOM) {
                    bytes[length] = (byte) (number >> shift);
                    length++;
                }
            }
        }
    }

    /** A BEACH as its text tells it. */
    private static final class Told {
        final int[] kind = new int[PEOPLE_ROOM];
        final int[] place = new int[PEOPLE_ROOM];
        final int[] thought = new int[PEOPLE_ROOM];
        final int[] by = new int[PEOPLE_ROOM];
        final int[] knows = new int[PEOPLE_ROOM];
        final int[] sign = new int[PEOPLE_ROOM];
        final int[] postPlace = new int[POSTS_ROOM];
        final int[] postOff = new int[POSTS_ROOM];
        int limit = 0;
        int heat = 0;
        int slips = 0;
        int people = 0;
        int posts = 0;
        int manned = 0;
        int knowings = 0;
        int signsTold = 0;

        void clear() {
            for (int p = 0; p < PEOPLE_ROOM; p++) {
                knows[p] = 0;
                sign[p] = 0;
            }
            people = 0;
            posts = 0;
            manned = 0;
            knowings = 0;
            signsTold = 0;
        }

        int count(int what) {
            switch (what) {
                case 0: return limit;
                case 1: return heat;
                case 2: return slips;
                case 3: return people;
                case 4: return posts;
                case 5: return Integer.bitCount(manned);
                case 6: return knowings;
                default: return signsTold;
            }
        }

        /** The minute at which a person would SINK, if so many were NEAR. */
        int sinkMinute(int p, int nearby) {
            if (kind[p] == CHILD && nearby > 0) {
                return NEVER;
            }
            int minute = thought[p];
            if (kind[p] == TALKER) {
                minute += 3 * nearby;
            } else if (kind[p] == SLEEPER) {
                minute /= 2;
            }
            return Math.max(minute - heat, 0);
        }

        int fewestTaught() {
            int all = (1 << people) - 1;
            int best = all;
            for (int set = 0; set < all; set++) {
                if (Integer.bitCount(set) < Integer.bitCount(best) && (set | knownBy(set)) == all) {
                    best = set;
                }
            }
            return best;
        }

        int hearersOf(int p) {
            int heard = 1 << p;
            // Each round tells one more at least, or nobody any more.
            for (int round = 0; round < PEOPLE_ROOM; round++) {
                heard |= knownBy(heard);
            }
            return heard;
        }

        private int knownBy(int set) {
            int known = 0;
            for (int p = 0; p < people; p++) {
                if (has(set, p)) {
                    known |= knows[p];
                }
            }
            return known;
        }
    }

    /** Reads a text into a BEACH, or finds its first FAULT. */
    private static final class TextReader {
        private static final int FORM = 1;
        private static final int NOT_TOLD = 2;
        private static final int AGAIN = 3;
        private static final int BOUNDS = 4;
        private static final int MANY = 5;
        private static final int LACKS = 6;

        private static final int END = 0;
        private static final int WORD = 1;
        private static final int WHOLE = 2;
        private static final int SEMICOLON = 3;
        private static final int NO_TOKEN = 4;

        private static final int LONGEST_WORD = 8;
        private static final int LONGEST_WHOLE = 3;
        private static final int NAMES_ROOM = PEOPLE_ROOM + POSTS_ROOM;

        private final byte[] bytes;
        private final int[] nameStart = new int[NAMES_ROOM];
        private final int[] nameLength = new int[NAMES_ROOM];
        private final int[] nameNumber = new int[NAMES_ROOM];
        private final boolean[] nameOfPerson = new boolean[NAMES_ROOM];
        private int names = 0;
        private int end = 0;
        private int next = 0;
        private int token = END;
        private int tokenStart = 0;
        private int tokenLength = 0;
        private int value = 0;
        private int found = NONE;
        private boolean begun = false;
        int fault = 0;
        int faultPlace = NONE;

        TextReader(byte[] bytes) {
            this.bytes = bytes;
        }

        boolean read(int n, Told told) {
            end = Math.min(n, bytes.length);
            next = 0;
            names = 0;
            begun = false;
            fault = 0;
            faultPlace = NONE;
            told.clear();
            // A LINE takes a byte at least, so there are fewer of them than bytes.
            for (int line = 0; line <= end; line++) {
                if (!readLine(told)) {
                    return false;
                }
                advance();
                if (token == END) {
                    return told.people > 0 || fail(LACKS);
                }
                if (token != SEMICOLON) {
                    return fail(FORM);
                }
            }
            return fail(FORM);
        }

        private boolean readLine(Told told) {
            advance();
            if (!isLineWord()) {
                return fail(FORM);
            }
            if (isWord("beach")) {
                return begun ? fail(AGAIN) : readBeach(told);
            }
            if (!begun) {
                return fail(LACKS);
            }
            if (isWord("person")) {
                return readPerson(told);
            }
            if (isWord("post")) {
                return readPost(told);
            }
            if (isWord("manned")) {
                return readManned(told);
            }
            if (isWord("knows")) {
                return readKnows(told);
            }
            return readSign(told, isWord("waved") ? WAVED : STILL);
        }

        private boolean readBeach(Told told) {
            begun = true;
            if (!labelled("limit", 1, 60)) {
                return false;
            }
            told.limit = value;
            if (!labelled("heat", 0, 9)) {
                return false;
            }
            told.heat = value;
            if (!labelled("slips", 0, HUNDRED)) {
                return false;
            }
            told.slips = value;
            return true;
        }

        private boolean readPerson(Told told) {
            int p = told.people;
            if (p >= PEOPLE_ROOM) {
                return fail(MANY);
            }
            if (!newName(true, p)) {
                return false;
            }
            advance();
            int kind = kindTold();
            if (kind == NONE) {
                return fail(FORM);
            }
            told.kind[p] = kind;
            if (!labelled("at", 0, LAST_PLACE)) {
                return false;
            }
            told.place[p] = value;
            if (!labelled("thought", 0, 99)) {
                return false;
            }
            told.thought[p] = value;
            if (!labelled("by", 0, HUNDRED)) {
                return false;
            }
            told.by[p] = value;
            told.people++;
            return true;
        }

        private boolean readPost(Told told) {
            int q = told.posts;
            if (q >= POSTS_ROOM) {
                return fail(MANY);
            }
            if (!newName(false, q)) {
                return false;
            }
            if (!labelled("at", 0, LAST_PLACE)) {
                return false;
            }
            told.postPlace[q] = value;
            if (!labelled("off", 1, MOST_OFF)) {
                return false;
            }
            told.postOff[q] = value;
            told.posts++;
            return true;
        }

        private boolean readManned(Told told) {
            if (!toldName(false)) {
                return false;
            }
            if (has(told.manned, found)) {
                return fail(AGAIN);
            }
            told.manned |= 1 << found;
            return true;
        }

        private boolean readKnows(Told told) {
            if (told.knowings >= KNOWINGS_ROOM) {
                return fail(MANY);
            }
            if (!toldName(true)) {
                return false;
            }
            int knower = found;
            if (!toldName(true)) {
                return false;
            }
            if (found == knower || has(told.knows[knower], found)) {
                return fail(AGAIN);
            }
            told.knows[knower] |= 1 << found;
            told.knowings++;
            return true;
        }

        private boolean readSign(Told told, int sign) {
            if (!toldName(true)) {
                return false;
            }
            if (told.sign[found] != 0) {
                return fail(AGAIN);
            }
            told.sign[found] = sign;
            told.signsTold++;
            return true;
        }

        /** A given WORD and behind it a WHOLE within bounds, kept as value. */
        private boolean labelled(String word, int least, int most) {
            advance();
            if (!isWord(word)) {
                return fail(FORM);
            }
            advance();
            if (token != WHOLE) {
                return fail(FORM);
            }
            value = wholeValue();
            return value >= least && value <= most || fail(BOUNDS);
        }

        private boolean newName(boolean ofPerson, int number) {
            advance();
            if (token != WORD || isLineWord()) {
                return fail(FORM);
            }
            if (nameIndex() != NONE || names >= NAMES_ROOM) {
                return fail(AGAIN);
            }
            nameStart[names] = tokenStart;
            nameLength[names] = tokenLength;
            nameNumber[names] = number;
            nameOfPerson[names] = ofPerson;
            names++;
            return true;
        }

        /** A NAME of one sort that is told already; its number is kept as found. */
        private boolean toldName(boolean ofPerson) {
            advance();
            if (token != WORD || isLineWord()) {
                return fail(FORM);
            }
            int index = nameIndex();
            if (index == NONE || nameOfPerson[index] != ofPerson) {
                return fail(NOT_TOLD);
            }
            found = nameNumber[index];
            return true;
        }

        private int nameIndex() {
            for (int i = 0; i < names; i++) {
                if (nameLength[i] == tokenLength && isSameText(nameStart[i])) {
                    return i;
                }
            }
            return NONE;
        }

        private boolean isSameText(int start) {
            for (int i = 0; i < tokenLength; i++) {
                if (bytes[start + i] != bytes[tokenStart + i]) {
                    return false;
                }
            }
            return true;
        }

        private int kindTold() {
            if (isWord("reader")) {
                return READER;
            }
            if (isWord("talker")) {
                return TALKER;
            }
            if (isWord("sleeper")) {
                return SLEEPER;
            }
            return isWord("child") ? CHILD : NONE;
        }

        private boolean isLineWord() {
            return isWord("beach") || isWord("person") || isWord("post") || isWord("manned")
                || isWord("knows") || isWord("waved") || isWord("still");
        }

        private boolean isWord(String word) {
            if (token != WORD || word.length() != tokenLength) {
                return false;
            }
            for (int i = 0; i < tokenLength; i++) {
                if (bytes[tokenStart + i] != word.charAt(i)) {
                    return false;
                }
            }
            return true;
        }

        private int wholeValue() {
            int whole = 0;
            for (int i = 0; i < tokenLength; i++) {
                whole = whole * 10 + bytes[tokenStart + i] - '0';
            }
            return whole;
        }

        private void advance() {
            int start = next;
            while (start < end && bytes[start] == ' ') {
                start++;
            }
            int stop = start;
            if (start >= end) {
                token = END;
            } else if (bytes[start] == ';') {
                token = SEMICOLON;
                stop++;
            } else if (isLetter(bytes[start])) {
                while (stop < end && isLetter(bytes[stop])) {
                    stop++;
                }
                token = stop - start <= LONGEST_WORD ? WORD : NO_TOKEN;
            } else {
                while (stop < end && isDigit(bytes[stop])) {
                    stop++;
                }
                token = stop > start && stop - start <= LONGEST_WHOLE ? WHOLE : NO_TOKEN;
            }
            tokenStart = start;
            tokenLength = stop - start;
            next = stop;
        }

        private boolean fail(int number) {
            fault = number;
            faultPlace = tokenStart;
            return false;
        }

        private static boolean isLetter(int sign) {
            return sign >= 'a' && sign <= 'z';
        }

        private static boolean isDigit(int sign) {
            return sign >= '0' && sign <= '9';
        }
    }

    /** What acts change: how all is NOW. */
    private static final class Scene {
        final int[] place = new int[PEOPLE_ROOM];
        int manned = 0;
        int lifted = 0;
        int minute = 0;

        void begin(Told told) {
            for (int p = 0; p < PEOPLE_ROOM; p++) {
                place[p] = told.place[p];
            }
            manned = told.manned;
            lifted = 0;
            minute = 0;
        }

        void copy(Scene other) {
            for (int p = 0; p < PEOPLE_ROOM; p++) {
                place[p] = other.place[p];
            }
            manned = other.manned;
            lifted = other.lifted;
            minute = other.minute;
        }
    }

    /** The BEACH NOW, with what follows from it. */
    private static final class Shore {
        final Scene now = new Scene();
        final int[] nearBits = new int[PEOPLE_ROOM];
        final int[] sinkAt = new int[PEOPLE_ROOM];
        final int[] reachBits = new int[POSTS_ROOM];
        private final int[] trial = new int[PEOPLE_ROOM];
        Told told = new Told();
        int sinkerBits = 0;
        int coveredBits = 0;

        void begin(Told beach) {
            told = beach;
            now.begin(beach);
            settle();
        }

        /** Finds again what follows from how all is NOW. */
        void settle() {
            sinkerBits = 0;
            for (int p = 0; p < told.people; p++) {
                nearBits[p] = nearIn(now.place, p);
                sinkAt[p] = has(now.lifted, p) ? NEVER : told.sinkMinute(p, Integer.bitCount(nearBits[p]));
                if (sinkAt[p] != NEVER) {
                    sinkerBits |= 1 << p;
                }
            }
            coveredBits = 0;
            for (int q = 0; q < told.posts; q++) {
                reachBits[q] = reachOf(q);
                if (isManned(q)) {
                    coveredBits |= reachBits[q];
                }
            }
        }

        private int nearIn(int[] places, int p) {
            int bits = 0;
            for (int other = 0; other < told.people; other++) {
                if (other != p && Math.abs(places[other] - places[p]) <= NEAR_PLACES) {
                    bits |= 1 << other;
                }
            }
            return bits;
        }

        private int reachOf(int q) {
            int bits = 0;
            for (int p = 0; p < told.people; p++) {
                if (timeTo(q, p) <= told.limit) {
                    bits |= 1 << p;
                }
            }
            return bits;
        }

        int ofPerson(int p, int what) {
            switch (what) {
                case 0: return told.kind[p];
                case 1: return now.place[p];
                case 2: return told.thought[p];
                case 3: return told.by[p];
                case 4: return sinkAt[p];
                case 5: return nearBits[p];
                case 6: return has(now.lifted, p) ? 1 : 0;
                case 7: return isUnder(p, now.minute) ? 1 : isLost(p, now.minute) ? 2 : 0;
                default: return told.knows[p];
            }
        }

        int ofPost(int q, int what) {
            switch (what) {
                case 0: return told.postPlace[q];
                case 1: return told.postOff[q];
                case 2: return isManned(q) ? 1 : 0;
                default: return reachBits[q];
            }
        }

        int timeTo(int q, int p) {
            return Math.abs(told.postPlace[q] - now.place[p]) + told.postOff[q];
        }

        boolean reaches(int q, int p) {
            return has(reachBits[q], p);
        }

        boolean isManned(int q) {
            return has(now.manned, q);
        }

        boolean sinks(int p) {
            return has(sinkerBits, p);
        }

        boolean isUnder(int p, int minute) {
            return sinks(p) && minute >= sinkAt[p] && minute < sinkAt[p] + told.limit;
        }

        boolean isLost(int p, int minute) {
            return sinks(p) && minute >= sinkAt[p] + told.limit;
        }

        int everybody() {
            return (1 << told.people) - 1;
        }

        int firstSinker() {
            int best = NEVER;
            int least = 0;
            for (int p = 0; p < told.people; p++) {
                if (sinks(p) && (best == NEVER || sinkAt[p] < least)) {
                    best = p;
                    least = sinkAt[p];
                }
            }
            return best;
        }

        int underBits(int minute) {
            int bits = 0;
            for (int p = 0; p < told.people; p++) {
                if (isUnder(p, minute)) {
                    bits |= 1 << p;
                }
            }
            return bits;
        }

        int lostBits(int minute) {
            int bits = 0;
            for (int p = 0; p < told.people; p++) {
                if (isLost(p, minute)) {
                    bits |= 1 << p;
                }
            }
            return bits;
        }

        int minuteOfMostUnder() {
            int best = 0;
            int most = 0;
            for (int minute = 0; minute <= LAST_ASKED_MINUTE; minute++) {
                int many = Integer.bitCount(underBits(minute));
                if (many > most) {
                    most = many;
                    best = minute;
                }
            }
            return best;
        }

        int minuteOfSoMany(int many) {
            for (int minute = 0; minute <= LAST_ASKED_MINUTE; minute++) {
                int begun = 0;
                for (int p = 0; p < told.people; p++) {
                    if (sinks(p) && sinkAt[p] <= minute) {
                        begun++;
                    }
                }
                if (begun >= many) {
                    return minute;
                }
            }
            return NEVER;
        }

        int nearestManned(int p) {
            int best = NEVER;
            int least = 0;
            for (int q = 0; q < told.posts; q++) {
                if (isManned(q) && (best == NEVER || timeTo(q, p) < least)) {
                    best = q;
                    least = timeTo(q, p);
                }
            }
            return best;
        }

        private boolean isCovering(int set) {
            int bits = 0;
            for (int q = 0; q < told.posts; q++) {
                if (has(set, q)) {
                    bits |= reachBits[q];
                }
            }
            return (sinkerBits & ~bits) == 0;
        }

        int fewestPosts() {
            int best = NEVER;
            for (int set = 0; set < 1 << told.posts; set++) {
                if (isCovering(set) && (best == NEVER || Integer.bitCount(set) < Integer.bitCount(best))) {
                    best = set;
                }
            }
            return best;
        }

        int coveringSets() {
            int many = 0;
            for (int set = 0; set < 1 << told.posts; set++) {
                if (isCovering(set)) {
                    many++;
                }
            }
            return many;
        }

        int postOfMostMore() {
            int best = NEVER;
            int most = 0;
            for (int q = 0; q < told.posts; q++) {
                int more = Integer.bitCount(sinkerBits & reachBits[q] & ~coveredBits);
                // A manned post adds nobody, so it needs no test of its own.
                if (more > most) {
                    most = more;
                    best = q;
                }
            }
            return best;
        }

        int placeOfMostReached(int off) {
            int best = 0;
            int most = 0;
            for (int place = 0; place <= LAST_PLACE; place++) {
                int many = 0;
                for (int p = 0; p < told.people; p++) {
                    if (sinks(p) && Math.abs(place - now.place[p]) + off <= told.limit) {
                        many++;
                    }
                }
                if (many > most) {
                    most = many;
                    best = place;
                }
            }
            return best;
        }

        int leastLimit() {
            int least = 1;
            for (int p = 0; p < told.people; p++) {
                int q = nearestManned(p);
                if (q < 0) {
                    return NEVER;
                }
                if (sinks(p)) {
                    least = Math.max(least, timeTo(q, p));
                }
            }
            return least;
        }

        int placeOfFewestSinkers(int p) {
            for (int other = 0; other < told.people; other++) {
                trial[other] = now.place[other];
            }
            int best = 0;
            int fewest = PEOPLE_ROOM + 1;
            for (int place = 0; place <= LAST_PLACE; place++) {
                trial[p] = place;
                int many = sinkersOnTrial();
                if (many < fewest) {
                    fewest = many;
                    best = place;
                }
            }
            return best;
        }

        private int sinkersOnTrial() {
            int many = 0;
            for (int p = 0; p < told.people; p++) {
                if (!has(now.lifted, p) && told.sinkMinute(p, Integer.bitCount(nearIn(trial, p))) != NEVER) {
                    many++;
                }
            }
            return many;
        }
    }

    /** The acts that can be undone, and the IMAGES. */
    private static final class Past {
        private final Scene[] kept = new Scene[ACTS_ROOM];
        private final Scene[] pictures = new Scene[IMAGES_ROOM];
        private int newest = 0;
        int acts = 0;
        int images = 0;

        Past() {
            for (int i = 0; i < ACTS_ROOM; i++) {
                kept[i] = new Scene();
            }
            for (int i = 0; i < IMAGES_ROOM; i++) {
                pictures[i] = new Scene();
            }
        }

        void forget() {
            acts = 0;
            images = 0;
        }

        /** Keeps how all is ahead of an act; the oldest of too many is written over. */
        void keep(Scene now) {
            newest = newest + 1 < ACTS_ROOM ? newest + 1 : 0;
            kept[newest].copy(now);
            acts = Math.min(acts + 1, ACTS_ROOM);
        }

        boolean takeBack(Scene now) {
            if (acts <= 0) {
                return false;
            }
            now.copy(kept[newest]);
            newest = newest > 0 ? newest - 1 : ACTS_ROOM - 1;
            acts--;
            return true;
        }

        int keepImage(Scene now) {
            if (images >= IMAGES_ROOM) {
                return NONE;
            }
            pictures[images].copy(now);
            images++;
            return images - 1;
        }

        boolean bringBack(int number, Scene now) {
            if (number < 0 || number >= images) {
                return false;
            }
            now.copy(pictures[number]);
            acts = 0;
            return true;
        }
    }

    /** The best row of one guard ALONE at a post. */
    private static final class Alone {
        final int[] best = new int[PEOPLE_ROOM];
        private final int[] row = new int[PEOPLE_ROOM];
        int most = 0;
        int freeBehind = 0;

        void search(Shore shore, int q) {
            most = 0;
            freeBehind = shore.now.minute;
            extend(this, shore, q, 0, 0, shore.now.minute);
        }

        /** Tries all rows that begin as the first many of row, the first ones by people ahead. */
        private static void extend(Alone lone, Shore shore, int q, int many, int helped, int free) {
            if (many > lone.most) {
                lone.take(many, free);
            }
            int open = Integer.bitCount(shore.sinkerBits & ~helped);
            if (many >= PEOPLE_ROOM || many + open <= lone.most) {
                return;
            }
            for (int p = 0; p < shore.told.people; p++) {
                if (shore.sinks(p) && !has(helped, p)) {
                    int time = shore.timeTo(q, p);
                    int there = Math.max(free, shore.sinkAt[p]) + time;
                    if (there <= shore.sinkAt[p] + shore.told.limit) {
                        lone.row[many] = p;
                        extend(lone, shore, q, many + 1, helped | 1 << p, there + time);
                    }
                }
            }
        }

        private void take(int many, int free) {
            for (int i = 0; i < many && i < PEOPLE_ROOM; i++) {
                best[i] = row[i];
            }
            most = many;
            freeBehind = free;
        }
    }

    /** The best SEATS. */
    private static final class Seating {
        final int[] best = new int[PEOPLE_ROOM];
        private final int[] row = new int[PEOPLE_ROOM];
        private final int[] badSeats = new int[PEOPLE_ROOM];
        int fewest = 0;

        void search(Shore shore) {
            int people = shore.told.people;
            for (int p = 0; p < people; p++) {
                badSeats[p] = has(shore.now.lifted, p) ? 0 : badSeatsOf(shore, p);
            }
            fewest = people + 1;
            extend(this, people, 0, 0, 0);
        }

        /**
         * The seats at which a person SINKS and isn't REACHED. All seats stay taken, so
         * how many are NEAR one is the same whoever sits where.
         */
        private static int badSeatsOf(Shore shore, int p) {
            int bad = 0;
            for (int seat = 0; seat < shore.told.people; seat++) {
                int nearby = Integer.bitCount(shore.nearBits[seat]);
                if (!has(shore.coveredBits, seat) && shore.told.sinkMinute(p, nearby) != NEVER) {
                    bad |= 1 << seat;
                }
            }
            return bad;
        }

        /** Seats the person p and those behind him in all ways, the first ones by seats ahead. */
        private static void extend(Seating seating, int people, int p, int taken, int bad) {
            if (bad >= seating.fewest) {
                return;
            }
            if (p >= people || p >= PEOPLE_ROOM) {
                seating.take(bad);
                return;
            }
            for (int seat = 0; seat < people; seat++) {
                if (!has(taken, seat)) {
                    seating.row[p] = seat;
                    int more = has(seating.badSeats[p], seat) ? 1 : 0;
                    extend(seating, people, p + 1, taken | 1 << seat, bad + more);
                }
            }
        }

        private void take(int bad) {
            for (int p = 0; p < PEOPLE_ROOM; p++) {
                best[p] = row[p];
            }
            fewest = bad;
        }
    }

    /** How heavily each is suspected by the SIGNS told. */
    private static final class Signs {
        final long[] weight = new long[PEOPLE_ROOM];
        private int people = 0;
        long total = 0;

        void weigh(Told told) {
            people = told.people;
            total = 0;
            for (int p = 0; p < people; p++) {
                weight[p] = weightIfSinking(told, p);
                total += weight[p];
            }
        }

        private static long weightIfSinking(Told told, int sinker) {
            long product = 1;
            for (int p = 0; p < told.people; p++) {
                if (told.sign[p] != 0) {
                    // Who is sinking ought to wave, another one to sit still: all else is a slip.
                    boolean slipped = (told.sign[p] == WAVED) != (p == sinker);
                    product *= slipped ? told.slips : HUNDRED - told.slips;
                }
            }
            return product;
        }

        long weightOf(int set) {
            long sum = 0;
            for (int p = 0; p < people; p++) {
                if (has(set, p)) {
                    sum += weight[p];
                }
            }
            return sum;
        }

        int heaviest() {
            int best = NEVER;
            long most = 0;
            for (int p = 0; p < people; p++) {
                if (weight[p] > most) {
                    most = weight[p];
                    best = p;
                }
            }
            return best;
        }

        int fewestByHalf() {
            int best = NEVER;
            for (int set = 1; set < 1 << people; set++) {
                if (2 * weightOf(set) > total && (best == NEVER || Integer.bitCount(set) < Integer.bitCount(best))) {
                    best = set;
                }
            }
            return best;
        }
    }

    /** CHANCE and AFTERNOONS. */
    private static final class Chance {
        private final long[] ways = new long[PEOPLE_ROOM + 1];
        private int seed = 0;

        void nobodyLost(Shore shore, Ratio ratio) {
            long upper = 1;
            long lower = 1;
            for (int p = 0; p < shore.told.people; p++) {
                if (isAtRisk(shore, p)) {
                    upper *= HUNDRED - shore.told.by[p];
                    lower *= HUNDRED;
                }
            }
            ratio.reduce(upper, lower);
        }

        void soManySink(Shore shore, int many, Ratio ratio) {
            for (int i = 0; i <= PEOPLE_ROOM; i++) {
                ways[i] = i == 0 ? 1 : 0;
            }
            long lower = 1;
            for (int p = 0; p < shore.told.people; p++) {
                if (shore.sinks(p)) {
                    int by = shore.told.by[p];
                    for (int i = PEOPLE_ROOM; i > 0; i--) {
                        ways[i] = ways[i] * (HUNDRED - by) + ways[i - 1] * by;
                    }
                    ways[0] *= HUNDRED - by;
                    lower *= HUNDRED;
                }
            }
            ratio.reduce(many >= 0 && many <= PEOPLE_ROOM ? ways[many] : 0, lower);
        }

        void meanLost(Shore shore, Ratio ratio) {
            long sum = 0;
            for (int p = 0; p < shore.told.people; p++) {
                if (isAtRisk(shore, p)) {
                    sum += shore.told.by[p];
                }
            }
            ratio.reduce(sum, HUNDRED);
        }

        int timesLost(Shore shore, int p, int firstSeed, int n) {
            seed = firstSeed;
            int times = 0;
            for (int i = 0; i < n; i++) {
                int sunk = drawAfternoon(shore);
                if (has(sunk, p) && isAtRisk(shore, p)) {
                    times++;
                }
            }
            return times;
        }

        int mostAtOnce(Shore shore, int firstSeed, int n) {
            seed = firstSeed;
            int most = 0;
            for (int i = 0; i < n; i++) {
                most = Math.max(most, Integer.bitCount(drawAfternoon(shore)));
            }
            return most;
        }

        private int drawAfternoon(Shore shore) {
            int sunk = 0;
            for (int p = 0; p < shore.told.people; p++) {
                if (shore.sinks(p)) {
                    seed = (75 * seed + 74) % 65537;
                    if (seed % HUNDRED < shore.told.by[p]) {
                        sunk |= 1 << p;
                    }
                }
            }
            return sunk;
        }

        private static boolean isAtRisk(Shore shore, int p) {
            return shore.sinks(p) && !has(shore.coveredBits, p);
        }
    }

    /** A share in lowest terms. */
    private static final class Ratio {
        long upper = 0;
        long lower = 1;

        void reduce(long top, long bottom) {
            upper = 0;
            lower = 1;
            if (top > 0 && bottom > 0) {
                long divisor = commonDivisor(top, bottom);
                if (divisor > 0) {
                    upper = top / divisor;
                    lower = bottom / divisor;
                }
            }
        }

        private static long commonDivisor(long a, long b) {
            long larger = a;
            long smaller = b;
            // Two steps halve the larger one at least: 200 are more than any long needs.
            for (int step = 0; step < 200 && smaller != 0; step++) {
                long left = larger % smaller;
                larger = smaller;
                smaller = left;
            }
            return larger;
        }
    }
}
