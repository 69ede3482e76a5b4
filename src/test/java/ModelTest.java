import java.math.BigInteger;
import java.util.List;
import java.util.Random;

/** Random runs, each answer compared with the model's. */
public final class ModelTest {
    private static final int STEPS = 9;

    private ModelTest() {
    }

    public static void main(String[] args) {
        int runs = args.length > 0 ? Integer.parseInt(args[0]) : 400;
        for (int seed = 1; seed <= runs; seed++) {
            for (int step = 0; step < STEPS; step++) {
                beachRun(seed, step, true);
                beachRun(seed, step, false);
            }
        }
        for (int seed = 1; seed <= 30 * runs; seed++) {
            brokenText(new Random(seed), seed);
        }
        everyCut();
        everyToken();
        Check.finish();
    }

    /** A run up to one step, where one half of all is compared: an object has but 512 calls. */
    private static void beachRun(int seed, int last, boolean half) {
        Random random = new Random(seed);
        String at = "run " + seed + "," + last + " ";
        ShoreGuards x = new ShoreGuards();
        Model m = null;
        int beaches = 1 + random.nextInt(2);
        for (int i = 0; i < beaches; i++) {
            m = Model.random(random);
            String text = m.text(random);
            Check.granted(x, at + "beach of " + text, Check.tell(x, text), m.people.size());
            for (int step = 0; step < (i + 1 < beaches ? STEPS : last); step++) {
                for (int k = step == STEPS - 2 ? 20 : random.nextInt(5); k >= 0; k--) {
                    act(x, m, at, random);
                }
            }
        }
        if (half) {
            comparePeople(x, m, at);
            compareDraws(x, m, at, random);
            compareSizes(x, m, at);
        } else {
            comparePosts(x, m, at, random);
            compareShore(x, m, at, random);
        }
    }

    private static void act(ShoreGuards x, Model m, String at, Random random) {
        int p = random.nextInt(m.people.size() + 1);
        int q = random.nextInt(m.posts.size() + 1);
        boolean person = p < m.people.size();
        boolean post = q < m.posts.size();
        switch (random.nextInt(9)) {
            case 0:
                if (!post || m.posts.get(q).manned) {
                    Check.refused(x, at + "man", x.man(q), post ? 5 : 1);
                } else {
                    m.act();
                    m.posts.get(q).manned = true;
                    Check.granted(x, at + "man", x.man(q), true);
                }
                break;
            case 1:
                if (!post || !m.posts.get(q).manned) {
                    Check.refused(x, at + "leave", x.leave(q), post ? 5 : 1);
                } else {
                    m.act();
                    m.posts.get(q).manned = false;
                    Check.granted(x, at + "leave", x.leave(q), true);
                }
                break;
            case 2:
            case 3:
                int place = random.nextInt(110) - 5;
                if (!person || place < 0 || place > 99 || m.people.get(p).place == place) {
                    Check.refused(x, at + "seat", x.seat(p, place), -1, !person ? 1 : place < 0 || place > 99 ? 2 : 5);
                } else {
                    m.act();
                    m.people.get(p).place = place;
                    Check.granted(x, at + "seat", x.seat(p, place), m.sinks(p));
                }
                break;
            case 4:
                int n = random.nextInt(random.nextInt(4) == 0 ? 70 : 15);
                if (n < 1 || n > 60 || m.now + n > 999) {
                    Check.refused(x, at + "minute", x.minute(n), -1, n < 1 || n > 60 ? 2 : 3);
                } else {
                    m.act();
                    m.now += n;
                    Check.granted(x, at + "minute", x.minute(n), m.allWho(m.now, 1));
                }
                break;
            case 5:
                if (!person || m.how(p, m.now) != 1 || !m.reachedByManned(p)) {
                    Check.refused(x, at + "lift", x.lift(p), -1, !person ? 1 : m.how(p, m.now) != 1 ? 5 : 6);
                } else {
                    int by = m.nearest(p);
                    m.act();
                    m.people.get(p).lifted = true;
                    Check.granted(x, at + "lift", x.lift(p), by);
                }
                break;
            case 6:
                boolean undone = m.undo();
                Check.due(at + "undo", x.undo(), undone);
                Check.due(at + "trouble of undo", x.trouble(), undone ? 0 : 6);
                break;
            case 7:
                int number = m.image();
                Check.due(at + "image", x.image(), number);
                Check.due(at + "trouble of image", x.trouble(), number < 0 ? 3 : 0);
                break;
            default:
                int image = random.nextInt(5) - 1;
                boolean gone = m.back(image);
                Check.due(at + "back", x.back(image), gone);
                Check.due(at + "trouble of back", x.trouble(), gone ? 0 : 1);
                break;
        }
    }

    private static void share(ShoreGuards x, String call, long upper, long lower, BigInteger[] due) {
        Check.granted(x, call + " upper", upper, due[0].longValueExact());
        Check.granted(x, call + " lower", lower, due[1].longValueExact());
    }

    private static void compareShore(ShoreGuards x, Model m, String at, Random random) {
        int minute = random.nextInt(201);
        Check.granted(x, at + "sinkers", x.sinkers(), m.sinkers());
        Check.granted(x, at + "first", x.first(), m.first());
        Check.granted(x, at + "under", x.under(minute), m.allWho(minute, 1));
        Check.granted(x, at + "lost", x.lost(minute), m.allWho(minute, 2));
        Check.granted(x, at + "worstMinute", x.worstMinute(), m.worstMinute());
        Check.granted(x, at + "likeliest", x.likeliest(), m.likeliest());
        Check.granted(x, at + "suspects", x.suspects(), m.suspects());
        int set = random.nextInt(1 << m.people.size());
        share(x, at + "among", x.among(set, false), x.among(set, true), m.among(set));
        for (int many = 1; many <= 6; many++) {
            Check.granted(x, at + "flag", x.flag(many), m.flag(many));
        }
        Check.granted(x, at + "teach", x.teach(), m.teach());
        share(x, at + "safe", x.safe(false), x.safe(true), m.safe());
        share(x, at + "mean", x.mean(false), x.mean(true), m.mean());
        for (int many = 0; many <= 6; many++) {
            share(x, at + "sinking", x.sinking(many, false), x.sinking(many, true), m.sinking(many));
        }
    }

    private static void comparePeople(ShoreGuards x, Model m, String at) {
        List<String> kinds = List.of("reader", "talker", "sleeper", "child");
        int[] seats = m.seats();
        Check.granted(x, at + "seats", x.seats(), seats[m.people.size()]);
        for (int p = 0; p < m.people.size(); p++) {
            Model.Person who = m.people.get(p);
            int[] due = {kinds.indexOf(who.kind), who.place, who.thought, who.by, m.sinks(p), m.near(p),
                who.lifted ? 1 : 0, m.how(p, m.now), m.knowsBits(p)};
            for (int what = 0; what < due.length; what++) {
                Check.granted(x, at + "person(" + p + ", " + what + ")", x.person(p, what), due[what]);
            }
            Check.granted(x, at + "nearest", x.nearest(p), m.nearest(p));
            Check.granted(x, at + "seatOf", x.seatOf(p), seats[p]);
            Check.granted(x, at + "company", x.company(p), m.company(p));
            Check.granted(x, at + "hears", x.hears(p), m.hears(p));
            share(x, at + "odds", x.odds(p, false), x.odds(p, true), m.among(1 << p));
        }
    }

    private static void comparePosts(ShoreGuards x, Model m, String at, Random random) {
        for (int q = 0; q < m.posts.size(); q++) {
            Model.Post post = m.posts.get(q);
            int reach = 0;
            for (int p = 0; p < m.people.size(); p++) {
                Check.granted(x, at + "time", x.time(q, p), m.time(q, p));
                reach += m.reaches(q, p) ? 1 << p : 0;
            }
            int[] due = {post.place, post.off, post.manned ? 1 : 0, reach};
            for (int what = 0; what < due.length; what++) {
                Check.granted(x, at + "post(" + q + ", " + what + ")", x.post(q, what), due[what]);
            }
            List<Integer> row = m.alone(q);
            int many = row.size() - 1;
            Check.granted(x, at + "alone", x.alone(q), many);
            for (int i = 0; i < many; i++) {
                Check.granted(x, at + "aloneAt", x.aloneAt(q, i), row.get(i));
            }
            Check.refused(x, at + "aloneAt", x.aloneAt(q, many), -1, 1);
            Check.granted(x, at + "aloneFree", x.aloneFree(q), row.get(many));
        }
        Check.granted(x, at + "bestAlone", x.bestAlone(), m.bestAlone());
        Check.granted(x, at + "reached", x.reached(), m.reached());
        Check.granted(x, at + "cover", x.cover(), m.cover());
        Check.granted(x, at + "covers", x.covers(), m.covers());
        Check.granted(x, at + "bestPost", x.bestPost(), m.bestPost());
        int off = 1 + random.nextInt(40);
        Check.granted(x, at + "bestPlace", x.bestPlace(off), m.bestPlace(off));
        Check.granted(x, at + "limitFor", x.limitFor(), m.limitFor());
    }

    private static void compareDraws(ShoreGuards x, Model m, String at, Random random) {
        int seed = random.nextInt(65537);
        int n = random.nextInt(91);
        int[] sunk = m.afternoons(seed, n);
        int most = 0;
        for (int bits : sunk) {
            most = Math.max(most, Integer.bitCount(bits));
        }
        Check.granted(x, at + "worst", x.worst(seed, n), most);
        for (int p = 0; p < m.people.size(); p++) {
            int times = 0;
            for (int bits : sunk) {
                times += (bits >> p & 1) == 1 && !m.reachedByManned(p) ? 1 : 0;
            }
            Check.granted(x, at + "afternoons", x.afternoons(p, seed, n), times);
        }
    }

    private static void compareSizes(ShoreGuards x, Model m, String at) {
        int told = 0;
        for (Model.Post q : m.posts) {
            told += q.mannedAsTold ? 1 : 0;
        }
        int signs = 0;
        for (Model.Person p : m.people) {
            signs += p.waved != null ? 1 : 0;
        }
        int[] due = {m.limit, m.heat, m.slips, m.people.size(), m.posts.size(), told, m.knows.size(), signs,
            m.now, m.undoable(), m.imageCount(), 0};
        for (int what = 0; what < due.length; what++) {
            Check.due(at + "size(" + what + ")", x.size(what), due[what]);
        }
        int unreached = m.sinkers() & ~m.reached();
        int i = 0;
        for (int p = 0; p < m.people.size(); p++) {
            if ((unreached >> p & 1) == 1) {
                Check.due(at + "led(" + i + ")", Check.led(x, i), p);
                i++;
            }
        }
        Check.due(at + "led(" + i + ")", Check.led(x, i), Check.THREW);
    }

    private static final String WHOLE_TEXT = "beach limit 12 heat 2 slips 20;person pa reader at 10 thought 9 by 50;"
        + "post qa at 12 off 4;manned qa;person pb child at 13 thought 4 by 100;knows pa pb;waved pb;still pa;post qb at 1 off 1";

    private static final String[] BITS = {" ", ";", "beach", "person", "post", "manned", "knows", "waved", "still",
        "reader", "child", "pa", "pb", "qa", "qb", "zz", "0", "5", "99", "100", "101", "61", "1000", "abcdefghi",
        "at", "by", "off", "@", "A", ";knows pa pb", ";waved pa", ";still pb", ";manned qa", ";post qc at 5 off 5",
        ";person pg child at 5 thought 5 by 5", ";person pf talker at 5 thought 5 by 5", "\u00e9", "\n"};

    /** A good text with pieces put in, taken out or cut off. */
    private static void brokenText(Random random, int seed) {
        StringBuilder text = new StringBuilder(Model.random(random).text(random));
        for (int k = random.nextInt(3); k >= 0; k--) {
            int from = random.nextInt(text.length() + 1);
            int cut = random.nextInt(4) == 0 ? random.nextInt(9) : 0;
            switch (random.nextInt(4)) {
                case 0:
                    text.setLength(from);
                    break;
                case 1:
                    text.delete(from, Math.min(text.length(), from + cut));
                    break;
                case 2:
                    text.append(BITS[random.nextInt(BITS.length)]);
                    break;
                default:
                    text.replace(from, Math.min(text.length(), from + cut), " " + BITS[random.nextInt(BITS.length)] + " ");
                    break;
            }
        }
        if (text.length() > 880) {
            text.setLength(880);
        }
        compareFault("text " + seed, text.toString());
    }

    private static void compareFault(String name, String text) {
        int[] due = FaultModel.of(text);
        ShoreGuards x = new ShoreGuards();
        int people = Check.tell(x, text);
        String at = name + " '" + text + "' ";
        Check.due(at + "fault", x.fault(), due[0]);
        Check.due(at + "where", x.where(), due[1]);
        Check.due(at + "trouble", x.trouble(), due[0] == 0 ? 0 : 4);
        Check.due(at + "people", people > 0, due[0] == 0);
    }

    /** A text with each LINE, cut behind each byte. */
    private static void everyCut() {
        for (int n = 0; n <= WHOLE_TEXT.length(); n++) {
            compareFault("cut " + n, WHOLE_TEXT.substring(0, n));
        }
    }

    /** Each TOKEN of it left out, and other ones in its place or behind it. */
    private static void everyToken() {
        String[] tokens = WHOLE_TEXT.replace(";", " ; ").split(" +");
        for (int k = 0; k < tokens.length; k++) {
            String token = tokens[k];
            tokens[k] = "";
            compareFault("without token " + k, join(tokens));
            for (String other : BITS) {
                tokens[k] = other.trim();
                compareFault("token " + k, join(tokens));
                tokens[k] = token + " " + other.trim();
                compareFault("behind token " + k, join(tokens));
            }
            tokens[k] = token;
        }
    }

    private static String join(String[] tokens) {
        return String.join(" ", tokens).trim();
    }
}
