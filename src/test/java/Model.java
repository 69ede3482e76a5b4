import java.math.BigInteger;
import java.util.ArrayDeque;
import java.util.ArrayList;
import java.util.Deque;
import java.util.List;

/** A beach that answers each call by the document's words, in the slowest plain way. */
final class Model {
    static final class Person {
        String name;
        String kind;
        int place;
        int thought;
        int by;
        boolean lifted;
        Boolean waved;
    }

    static final class Post {
        String name;
        int place;
        int off;
        boolean manned;
        boolean mannedAsTold;
    }

    int limit;
    int heat;
    int slips;
    int now;
    final List<Person> people = new ArrayList<>();
    final List<Post> posts = new ArrayList<>();
    final List<int[]> knows = new ArrayList<>();
    private final Deque<int[]> acts = new ArrayDeque<>();
    private final List<int[]> images = new ArrayList<>();

    // ---- how all is

    int[] save() {
        int[] row = new int[1 + 2 * people.size() + posts.size()];
        int at = 0;
        row[at++] = now;
        for (Person p : people) {
            row[at++] = p.place;
            row[at++] = p.lifted ? 1 : 0;
        }
        for (Post q : posts) {
            row[at++] = q.manned ? 1 : 0;
        }
        return row;
    }

    void load(int[] row) {
        int at = 0;
        now = row[at++];
        for (Person p : people) {
            p.place = row[at++];
            p.lifted = row[at++] == 1;
        }
        for (Post q : posts) {
            q.manned = row[at++] == 1;
        }
    }

    void act() {
        acts.addLast(save());
        if (acts.size() > 16) {
            acts.removeFirst();
        }
    }

    boolean undo() {
        if (acts.isEmpty()) {
            return false;
        }
        load(acts.removeLast());
        return true;
    }

    int undoable() {
        return acts.size();
    }

    int image() {
        if (images.size() == 3) {
            return -1;
        }
        images.add(save());
        return images.size() - 1;
    }

    int imageCount() {
        return images.size();
    }

    boolean back(int i) {
        if (i < 0 || i >= images.size()) {
            return false;
        }
        load(images.get(i));
        acts.clear();
        return true;
    }

    // ---- II

    int near(int p) {
        int bits = 0;
        for (int o = 0; o < people.size(); o++) {
            if (o != p && Math.abs(people.get(o).place - people.get(p).place) <= 5) {
                bits += 1 << o;
            }
        }
        return bits;
    }

    int sinks(int p) {
        Person who = people.get(p);
        int company = Integer.bitCount(near(p));
        if (who.lifted || who.kind.equals("child") && company > 0) {
            return -2;
        }
        int minute = who.thought;
        if (who.kind.equals("talker")) {
            minute += 3 * company;
        }
        if (who.kind.equals("sleeper")) {
            minute = (int) Math.floor(minute / 2.0);
        }
        return minute - heat < 0 ? 0 : minute - heat;
    }

    int how(int p, int minute) {
        int sinks = sinks(p);
        if (sinks == -2 || minute < sinks) {
            return 0;
        }
        return minute - sinks < limit ? 1 : 2;
    }

    int allWho(int minute, int how) {
        int bits = 0;
        for (int p = 0; p < people.size(); p++) {
            bits += how(p, minute) == how ? 1 << p : 0;
        }
        return bits;
    }

    int time(int q, int p) {
        return Math.abs(posts.get(q).place - people.get(p).place) + posts.get(q).off;
    }

    boolean reaches(int q, int p) {
        return time(q, p) <= limit;
    }

    boolean reachedByManned(int p) {
        for (int q = 0; q < posts.size(); q++) {
            if (posts.get(q).manned && reaches(q, p)) {
                return true;
            }
        }
        return false;
    }

    int sinkers() {
        int bits = 0;
        for (int p = 0; p < people.size(); p++) {
            bits += sinks(p) != -2 ? 1 << p : 0;
        }
        return bits;
    }

    int reached() {
        int bits = 0;
        for (int p = 0; p < people.size(); p++) {
            bits += sinks(p) != -2 && reachedByManned(p) ? 1 << p : 0;
        }
        return bits;
    }

    int first() {
        for (int minute = 0; minute <= 200; minute++) {
            for (int p = 0; p < people.size(); p++) {
                if (sinks(p) == minute) {
                    return p;
                }
            }
        }
        return -2;
    }

    int worstMinute() {
        for (int many = 6; many > 0; many--) {
            for (int minute = 0; minute <= 200; minute++) {
                if (Integer.bitCount(allWho(minute, 1)) == many) {
                    return minute;
                }
            }
        }
        return 0;
    }

    int flag(int many) {
        for (int minute = 0; minute <= 200; minute++) {
            if (Integer.bitCount(allWho(minute, 1) | allWho(minute, 2)) >= many) {
                return minute;
            }
        }
        return -2;
    }

    // ---- posts

    int nearest(int p) {
        for (int time = 0; time <= 200; time++) {
            for (int q = 0; q < posts.size(); q++) {
                if (posts.get(q).manned && time(q, p) == time) {
                    return q;
                }
            }
        }
        return -2;
    }

    private boolean covering(int set) {
        for (int p = 0; p < people.size(); p++) {
            boolean some = sinks(p) == -2;
            for (int q = 0; q < posts.size(); q++) {
                some |= (set >> q & 1) == 1 && reaches(q, p);
            }
            if (!some) {
                return false;
            }
        }
        return true;
    }

    int cover() {
        for (int many = 0; many <= posts.size(); many++) {
            for (int set = 0; set < 1 << posts.size(); set++) {
                if (Integer.bitCount(set) == many && covering(set)) {
                    return set;
                }
            }
        }
        return -2;
    }

    int covers() {
        int many = 0;
        for (int set = 0; set < 1 << posts.size(); set++) {
            many += covering(set) ? 1 : 0;
        }
        return many;
    }

    int bestPost() {
        int best = -2;
        int most = Integer.bitCount(reached());
        for (int q = 0; q < posts.size(); q++) {
            if (!posts.get(q).manned) {
                posts.get(q).manned = true;
                int many = Integer.bitCount(reached());
                posts.get(q).manned = false;
                if (many > most) {
                    most = many;
                    best = q;
                }
            }
        }
        return best;
    }

    int bestPlace(int off) {
        for (int many = 6; many > 0; many--) {
            for (int place = 0; place <= 99; place++) {
                int found = 0;
                for (int p = 0; p < people.size(); p++) {
                    found += sinks(p) != -2 && Math.abs(people.get(p).place - place) + off <= limit ? 1 : 0;
                }
                if (found == many) {
                    return place;
                }
            }
        }
        return 0;
    }

    int limitFor() {
        boolean manned = false;
        for (Post q : posts) {
            manned |= q.manned;
        }
        if (!manned) {
            return -2;
        }
        int told = limit;
        int found = -2;
        for (limit = 1; limit <= 200 && found == -2; limit++) {
            if (reached() == sinkers()) {
                found = limit;
            }
        }
        limit = told;
        return found;
    }

    // ---- one guard

    /** The row of ALONE, and behind it the minute at which he is free. */
    List<Integer> alone(int q) {
        List<Integer> best = new ArrayList<>(List.of(now));
        tryRows(q, new ArrayList<>(), best);
        return best;
    }

    private void tryRows(int q, List<Integer> row, List<Integer> best) {
        int free = now;
        for (int p : row) {
            int there = Math.max(free, sinks(p)) + time(q, p);
            if (there > sinks(p) + limit) {
                return;
            }
            free = there + time(q, p);
        }
        if (row.size() > best.size() - 1) {
            best.clear();
            best.addAll(row);
            best.add(free);
        }
        for (int p = 0; p < people.size(); p++) {
            if (sinks(p) != -2 && !row.contains(p)) {
                row.add(p);
                tryRows(q, row, best);
                row.remove(row.size() - 1);
            }
        }
    }

    int bestAlone() {
        int best = -2;
        int most = -1;
        for (int q = 0; q < posts.size(); q++) {
            int many = alone(q).size() - 1;
            if (many > most) {
                most = many;
                best = q;
            }
        }
        return best;
    }

    // ---- seats

    /** The places by SEATS, and behind them how many aren't REACHED. */
    int[] seats() {
        int n = people.size();
        int[] places = new int[n];
        for (int p = 0; p < n; p++) {
            places[p] = people.get(p).place;
        }
        int[] best = new int[n + 1];
        best[n] = 99;
        trySeats(places, new ArrayList<>(), best);
        for (int p = 0; p < n; p++) {
            people.get(p).place = places[p];
        }
        return best;
    }

    private void trySeats(int[] places, List<Integer> row, int[] best) {
        int n = places.length;
        if (row.size() == n) {
            for (int p = 0; p < n; p++) {
                people.get(p).place = places[row.get(p)];
            }
            int bad = Integer.bitCount(sinkers()) - Integer.bitCount(reached());
            if (bad < best[n]) {
                for (int p = 0; p < n; p++) {
                    best[p] = people.get(p).place;
                }
                best[n] = bad;
            }
            return;
        }
        for (int seat = 0; seat < n; seat++) {
            if (!row.contains(seat)) {
                row.add(seat);
                trySeats(places, row, best);
                row.remove(row.size() - 1);
            }
        }
    }

    int company(int p) {
        int place = people.get(p).place;
        int best = -1;
        int fewest = 99;
        for (int to = 0; to <= 99; to++) {
            people.get(p).place = to;
            int many = Integer.bitCount(sinkers());
            if (many < fewest) {
                fewest = many;
                best = to;
            }
        }
        people.get(p).place = place;
        return best;
    }

    // ---- signs

    private BigInteger likelihood(int sinking) {
        BigInteger product = BigInteger.ONE;
        for (int p = 0; p < people.size(); p++) {
            if (people.get(p).waved != null) {
                int wavesIn100 = p == sinking ? 100 - slips : slips;
                product = product.multiply(BigInteger.valueOf(people.get(p).waved ? wavesIn100 : 100 - wavesIn100));
            }
        }
        return product;
    }

    BigInteger[] among(int set) {
        BigInteger part = BigInteger.ZERO;
        BigInteger all = BigInteger.ZERO;
        for (int p = 0; p < people.size(); p++) {
            all = all.add(likelihood(p));
            if ((set >> p & 1) == 1) {
                part = part.add(likelihood(p));
            }
        }
        return lowest(part, all);
    }

    static BigInteger[] lowest(BigInteger upper, BigInteger lower) {
        if (lower.signum() == 0) {
            return new BigInteger[] {BigInteger.ZERO, BigInteger.ONE};
        }
        BigInteger g = upper.gcd(lower);
        return new BigInteger[] {upper.divide(g), lower.divide(g)};
    }

    int likeliest() {
        int best = -2;
        BigInteger most = BigInteger.ZERO;
        for (int p = 0; p < people.size(); p++) {
            if (likelihood(p).compareTo(most) > 0) {
                most = likelihood(p);
                best = p;
            }
        }
        return best;
    }

    int suspects() {
        for (int many = 1; many <= people.size(); many++) {
            for (int set = 1; set < 1 << people.size(); set++) {
                BigInteger[] share = among(set);
                if (Integer.bitCount(set) == many && share[0].add(share[0]).compareTo(share[1]) > 0) {
                    return set;
                }
            }
        }
        return -2;
    }

    // ---- teaching

    int knowsBits(int p) {
        int bits = 0;
        for (int[] pair : knows) {
            bits += pair[0] == p ? 1 << pair[1] : 0;
        }
        return bits;
    }

    int teach() {
        for (int many = 0; many <= people.size(); many++) {
            for (int set = 0; set < 1 << people.size(); set++) {
                int reachedBy = set;
                for (int[] pair : knows) {
                    reachedBy |= (set >> pair[0] & 1) == 1 ? 1 << pair[1] : 0;
                }
                if (Integer.bitCount(set) == many && reachedBy == (1 << people.size()) - 1) {
                    return set;
                }
            }
        }
        return -2;
    }

    int hears(int p) {
        int bits = 1 << p;
        for (int before = 0; before != bits;) {
            before = bits;
            for (int[] pair : knows) {
                bits |= (bits >> pair[0] & 1) == 1 ? 1 << pair[1] : 0;
            }
        }
        return bits;
    }

    // ---- chance

    private BigInteger waysOf(int set) {
        BigInteger ways = BigInteger.ONE;
        for (int p = 0; p < people.size(); p++) {
            boolean in = (set >> p & 1) == 1;
            int by = sinks(p) == -2 ? 0 : people.get(p).by;
            ways = ways.multiply(BigInteger.valueOf(in ? by : 100 - by));
        }
        return ways;
    }

    private BigInteger allWays() {
        return BigInteger.valueOf(100).pow(people.size());
    }

    BigInteger[] safe() {
        BigInteger sum = BigInteger.ZERO;
        for (int set = 0; set < 1 << people.size(); set++) {
            if ((set & ~reached()) == 0) {
                sum = sum.add(waysOf(set));
            }
        }
        return lowest(sum, allWays());
    }

    BigInteger[] sinking(int many) {
        BigInteger sum = BigInteger.ZERO;
        for (int set = 0; set < 1 << people.size(); set++) {
            if (Integer.bitCount(set) == many) {
                sum = sum.add(waysOf(set));
            }
        }
        return lowest(sum, allWays());
    }

    BigInteger[] mean() {
        BigInteger sum = BigInteger.ZERO;
        for (int set = 0; set < 1 << people.size(); set++) {
            sum = sum.add(waysOf(set).multiply(BigInteger.valueOf(Integer.bitCount(set & ~reached()))));
        }
        return lowest(sum, allWays());
    }

    /** Those who sink in each of n AFTERNOONS, as bits. */
    int[] afternoons(long seed, int n) {
        int[] rows = new int[n];
        for (int i = 0; i < n; i++) {
            for (int p = 0; p < people.size(); p++) {
                if (sinks(p) != -2) {
                    seed = (75 * seed + 74) % 65537;
                    rows[i] |= seed % 100 < people.get(p).by ? 1 << p : 0;
                }
            }
        }
        return rows;
    }

    // ---- the text

    String text(java.util.Random random) {
        List<String> lines = new ArrayList<>();
        lines.add("beach limit " + limit + " heat " + heat + " slips " + slips);
        for (Person p : people) {
            lines.add("person " + p.name + " " + p.kind + " at " + p.place + " thought " + p.thought + " by " + p.by);
        }
        // Posts may be told among and ahead of people, as long as the first stays the beach.
        for (Post q : posts) {
            lines.add("post " + q.name + " at " + q.place + " off " + q.off);
            if (q.manned) {
                lines.add("manned " + q.name);
            }
        }
        for (int[] pair : knows) {
            lines.add("knows " + people.get(pair[0]).name + " " + people.get(pair[1]).name);
        }
        for (Person p : people) {
            if (p.waved != null) {
                lines.add((p.waved ? "waved " : "still ") + p.name);
            }
        }
        return String.join(random.nextInt(3) == 0 ? " ; " : ";", lines);
    }

    static Model random(java.util.Random random) {
        Model m = new Model();
        m.limit = 1 + random.nextInt(random.nextBoolean() ? 60 : 20);
        m.heat = random.nextInt(10);
        m.slips = random.nextInt(4) == 0 ? 100 * random.nextInt(2) : random.nextInt(101);
        int spread = random.nextBoolean() ? 100 : 25;
        String[] kinds = {"reader", "talker", "sleeper", "child"};
        int n = 1 + random.nextInt(6);
        for (int i = 0; i < n; i++) {
            Person p = new Person();
            p.name = "p" + (char) ('a' + i);
            p.kind = kinds[random.nextInt(4)];
            p.place = random.nextInt(spread);
            p.thought = random.nextInt(random.nextBoolean() ? 100 : 20);
            p.by = random.nextInt(4) == 0 ? 100 * random.nextInt(2) : random.nextInt(101);
            int sign = random.nextInt(3);
            p.waved = sign == 0 ? null : Boolean.valueOf(sign == 1);
            m.people.add(p);
        }
        int posts = random.nextInt(6);
        for (int i = 0; i < posts; i++) {
            Post q = new Post();
            q.name = "q" + (char) ('a' + i);
            q.place = random.nextInt(spread);
            q.off = 1 + random.nextInt(random.nextBoolean() ? 40 : 6);
            q.manned = random.nextBoolean();
            q.mannedAsTold = q.manned;
            m.posts.add(q);
        }
        int tries = random.nextInt(12);
        for (int i = 0; i < tries && m.knows.size() < 9; i++) {
            int a = random.nextInt(n);
            int b = random.nextInt(n);
            if (a != b && (m.knowsBits(a) >> b & 1) == 0) {
                m.knows.add(new int[] {a, b});
            }
        }
        return m;
    }
}
