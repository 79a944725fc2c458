import java.util.ArrayList;
import java.util.Comparator;
import java.util.HashMap;
import java.util.List;
import java.util.Map;
import java.util.TreeSet;

/**
 * The document written a second time, with the Java library and without a thought for room or speed.
 * It shares no code with the class, so that a slip in one of them shows as a difference.
 */
final class PlainModel {
    static final int NONE = -1, UNKNOWN = -1001, OUTSIDE = -1002, STATE = -1003, FULL = -1004;

    /** value < 0: a CERTIFICATE. */
    record Thing(int value, int stamp, int activation, TreeSet<Integer> keepers, int heat) {
        boolean certificate() {
            return value < 0;
        }

        Thing withHeat(int newHeat) {
            return new Thing(value, stamp, activation, keepers, newHeat);
        }

        Thing wokenAt(int now, int interest) {
            return new Thing(value, stamp, now, keepers, interest);
        }

        boolean newerThan(Thing other) {
            return stamp != other.stamp ? stamp > other.stamp : activation > other.activation;
        }
    }

    String page = "";
    int shortTime = 10, longTime = 40, interest = 2, recent = 5, reads = 0;
    String text = null;
    int now = 0, traffic = 0, woken = 0, gone = 0;
    TreeSet<Integer> off = new TreeSet<>();
    Map<Integer, Integer> lastRemoved = new HashMap<>();
    List<Map<Integer, Thing>> sites = new ArrayList<>();

    int letter(int code) {
        if (code < 32 || code > 126) return OUTSIDE;
        if (page.length() == 6) return FULL;
        page += (char) code;
        return page.length();
    }

    int blank() {
        int had = page.length();
        page = "";
        return had;
    }

    int fault() {
        for (int end = 1; end <= page.length(); end++) {
            if (!beginsLine(page.substring(0, end))) return end - 1;
        }
        return page.length();
    }

    private static boolean beginsLine(String t) {
        if (!t.matches("[0-9]{0,6}")) return false;
        StringBuilder sorted = new StringBuilder();
        t.chars().sorted().forEach(c -> sorted.append((char) c));
        return sorted.toString().equals(t);
    }

    int line() {
        if (page.length() < 2 || !beginsLine(page)) return STATE;
        text = page;
        page = "";
        reads++;
        now = traffic = woken = gone = 0;
        off.clear();
        lastRemoved.clear();
        sites.clear();
        for (int i = 0; i < text.length(); i++) sites.add(new HashMap<>());
        return text.length();
    }

    int set(int what, int v) {
        int was;
        switch (what) {
            case 0 -> {
                if (v < 1 || v > 50) return OUTSIDE;
                was = shortTime;
                shortTime = v;
            }
            case 1 -> {
                if (v < 0 || v > 200) return OUTSIDE;
                was = longTime;
                longTime = v;
            }
            case 2 -> {
                if (v < 1 || v > 3) return OUTSIDE;
                was = interest;
                interest = v;
            }
            case 3 -> {
                if (v < 0 || v > 50) return OUTSIDE;
                was = recent;
                recent = v;
            }
            default -> {
                return OUTSIDE;
            }
        }
        bury();
        return was;
    }

    private boolean site(int s) {
        return s >= 0 && s < sites.size();
    }

    private static boolean key(int k) {
        return k >= 0 && k <= 3;
    }

    private boolean dormant(Thing t) {
        return t != null && t.certificate() && now - t.activation() > shortTime;
    }

    private int bury() {
        int before = gone;
        for (int s = 0; s < sites.size(); s++) {
            int here = s;
            sites.get(s).values().removeIf(t -> {
                if (!t.certificate()) return false;
                int age = now - t.activation();
                boolean ends = age > shortTime + longTime || age > shortTime && !t.keepers().contains(here);
                if (ends) gone++;
                return ends;
            });
        }
        return gone - before;
    }

    private List<Integer> nearOnes(int s, boolean withOff) {
        List<Integer> others = new ArrayList<>();
        for (int o = 0; o < sites.size(); o++) {
            if (o != s && (withOff || !off.contains(o))) others.add(o);
        }
        others.sort(Comparator.comparing((Integer o) -> Math.abs(text.charAt(o) - text.charAt(s)))
            .thenComparing(Comparator.naturalOrder()));
        return others;
    }

    int put(int s, int k, int v) {
        if (!site(s) || !key(k)) return UNKNOWN;
        if (v < 0 || v > 9) return OUTSIDE;
        if (off.contains(s)) return STATE;
        if (now + 1 > 9999) return FULL;
        now++;
        bury();
        sites.get(s).put(k, new Thing(v, now, now, null, interest));
        return now;
    }

    int remove(int s, int k, int keepers) {
        if (!site(s) || !key(k)) return UNKNOWN;
        if (keepers < 1 || keepers > 3) return OUTSIDE;
        Thing there = sites.get(s).get(k);
        if (off.contains(s) || there == null || there.certificate()) return STATE;
        if (now + 1 > 9999) return FULL;
        now++;
        bury();
        TreeSet<Integer> keep = new TreeSet<>(List.of(s));
        for (int o : nearOnes(s, true)) {
            if (keep.size() < keepers) keep.add(o);
        }
        sites.get(s).put(k, new Thing(-1, now, now, keep, interest));
        lastRemoved.put(k, now);
        return now;
    }

    int pass(int n) {
        if (n < 1 || n > 300) return OUTSIDE;
        if (text == null) return STATE;
        if (now + n > 9999) return FULL;
        now += n;
        return bury();
    }

    int off(int s, boolean is) {
        if (!site(s)) return UNKNOWN;
        return (is ? !off.add(s) : off.remove(s)) ? 1 : 0;
    }

    int exchange(int a, int b) {
        if (!site(a) || !site(b) || a == b) return UNKNOWN;
        if (off.contains(a) || off.contains(b)) return STATE;
        return doExchange(a, b);
    }

    private int doExchange(int a, int b) {
        List<Integer> first = new ArrayList<>();
        List<Integer> rest = new ArrayList<>();
        for (int k = 0; k < 4; k++) {
            (fresh(sites.get(a).get(k)) || fresh(sites.get(b).get(k)) ? first : rest).add(k);
        }
        int came = meetAll(a, b, first);
        if (alike(a, b) == 0) came += meetAll(a, b, rest);
        return came;
    }

    private boolean fresh(Thing t) {
        return t != null && !dormant(t) && now - t.activation() < recent;
    }

    private int meetAll(int a, int b, List<Integer> keys) {
        for (int k : keys) {
            for (int s : new int[] {a, b}) {
                Thing t = sites.get(s).get(k);
                if (t != null && !dormant(t)) traffic++;
            }
        }
        int came = 0;
        for (int k : keys) {
            wakeIfOlder(a, b, k);
            wakeIfOlder(b, a, k);
            came += goOver(a, b, k) ? 1 : goOver(b, a, k) ? 1 : 0;
        }
        return came;
    }

    private void wakeIfOlder(int sleeper, int other, int k) {
        Thing mine = sites.get(sleeper).get(k);
        Thing its = sites.get(other).get(k);
        if (dormant(mine) && its != null && its.stamp() < mine.stamp()) {
            sites.get(sleeper).put(k, mine.wokenAt(now, interest));
            woken++;
        }
    }

    private boolean goOver(int from, int to, int k) {
        Thing mine = sites.get(from).get(k);
        Thing its = sites.get(to).get(k);
        if (mine == null || dormant(mine)) return false;
        if (its != null && !mine.newerThan(its)) return false;
        sites.get(to).put(k, mine.withHeat(0));
        return true;
    }

    int rumour(int a, int b) {
        if (!site(a) || !site(b) || a == b) return UNKNOWN;
        if (off.contains(a) || off.contains(b)) return STATE;
        return doRumour(a, b);
    }

    private int doRumour(int a, int b) {
        int came = 0;
        for (int k = 0; k < 4; k++) {
            Thing mine = sites.get(a).get(k);
            Thing its = sites.get(b).get(k);
            if (mine == null || mine.heat() <= 0 || dormant(mine)) continue;
            traffic++;
            if (its == null || mine.newerThan(its)) {
                sites.get(b).put(k, mine.withHeat(interest));
                came++;
                continue;
            }
            sites.get(a).put(k, mine.withHeat(mine.heat() - 1));
            wakeIfOlder(b, a, k);
        }
        return came;
    }

    int has(int s, int k, int what) {
        if (!site(s) || !key(k)) return UNKNOWN;
        if (what < 0 || what > 6) return OUTSIDE;
        Thing t = sites.get(s).get(k);
        if (t == null) return what == 0 || what > 4 ? 0 : NONE;
        if (what == 4) return t.certificate() ? bits(t.keepers()) : NONE;
        int[] answers = {t.certificate() ? 2 : 1, t.certificate() ? NONE : t.value(), t.stamp(), t.activation(),
            0, dormant(t) ? 1 : 0, t.heat()};
        return answers[what];
    }

    private static int bits(Iterable<Integer> numbers) {
        int sum = 0;
        for (int n : numbers) sum += (int) Math.pow(2, n);
        return sum;
    }

    int newest(int s, int kind) {
        if (!site(s)) return UNKNOWN;
        if (kind < 0 || kind > 2) return OUTSIDE;
        return sites.get(s).entrySet().stream()
            .filter(e -> kind == 0 || e.getValue().certificate() == (kind == 2))
            .max(Comparator.comparing(e -> e.getValue().stamp()))
            .map(Map.Entry::getKey).orElse(NONE);
    }

    int alike(int a, int b) {
        if (!site(a) || !site(b)) return UNKNOWN;
        return shown(a).equals(shown(b)) ? 1 : 0;
    }

    private String shown(int s) {
        StringBuilder all = new StringBuilder();
        for (int k = 0; k < 4; k++) {
            Thing t = sites.get(s).get(k);
            all.append(t == null || dormant(t) ? "-" : t.stamp() + "/" + t.activation()).append(' ');
        }
        return all.toString();
    }

    int risen(int k) {
        if (!key(k)) return UNKNOWN;
        List<Integer> found = new ArrayList<>();
        for (int s = 0; s < sites.size(); s++) {
            Thing t = sites.get(s).get(k);
            if (t != null && !t.certificate() && t.stamp() < lastRemoved.getOrDefault(k, 0)) found.add(s);
        }
        return bits(found);
    }

    private static long next(long seed) {
        return (1103515245L * seed + 12345L) % (1L << 31);
    }

    private int chosen(int s, long drawn) {
        int[] weights = {60, 30, 20, 15, 12};
        List<Integer> lots = new ArrayList<>();
        List<Integer> near = nearOnes(s, false);
        for (int rank = 0; rank < near.size(); rank++) {
            for (int n = 0; n < weights[rank]; n++) lots.add(near.get(rank));
        }
        return lots.isEmpty() ? NONE : lots.get((int) (drawn / 65536 % lots.size()));
    }

    int partner(int s, int seed, int what) {
        if (!site(s)) return UNKNOWN;
        if (seed < 0 || what < 0 || what > 1) return OUTSIDE;
        if (nearOnes(s, false).isEmpty()) return what == 0 ? NONE : seed;
        return what == 0 ? chosen(s, next(seed)) : (int) next(seed);
    }

    private PlainModel copy() {
        PlainModel c = new PlainModel();
        c.shortTime = shortTime;
        c.longTime = longTime;
        c.interest = interest;
        c.recent = recent;
        c.text = text;
        c.now = now;
        c.off.addAll(off);
        for (Map<Integer, Thing> s : sites) c.sites.add(new HashMap<>(s));
        return c;
    }

    private boolean allAlike() {
        List<String> all = new ArrayList<>();
        for (int s = 0; s < sites.size(); s++) {
            if (!off.contains(s)) all.add(shown(s));
        }
        return all.stream().distinct().count() <= 1;
    }

    int settle(int seed, boolean rumours, int what) {
        if (seed < 0 || what < 0 || what > 2) return OUTSIDE;
        if (text == null) return STATE;
        PlainModel c = copy();
        long drawn = seed;
        int rounds = 0;
        while (!c.allAlike() && rounds < 40) {
            rounds++;
            c.now++;
            c.bury();
            for (int s = 0; s < c.sites.size(); s++) {
                if (c.off.contains(s) || c.nearOnes(s, false).isEmpty()) continue;
                drawn = next(drawn);
                int other = c.chosen(s, drawn);
                if (rumours) c.doRumour(s, other);
                else c.doExchange(s, other);
            }
        }
        int[] answers = {c.allAlike() ? rounds : NONE, c.traffic, (int) drawn};
        return answers[what];
    }

    int count(int what) {
        int[] answers = {page.length(), sites.size(), now, bits(off), traffic, woken, gone, shortTime, longTime,
            interest, recent, reads};
        return what < 0 || what >= answers.length ? OUTSIDE : answers[what];
    }

    long digest() {
        List<Integer> numbers = new ArrayList<>();
        for (int s = 0; s < sites.size(); s++) {
            for (int k = 0; k < 4; k++) {
                for (int what = 0; what <= 6; what++) numbers.add(has(s, k, what));
            }
            for (int kind = 0; kind <= 2; kind++) numbers.add(newest(s, kind));
            for (int o = 0; o < sites.size(); o++) numbers.add(alike(s, o));
        }
        for (int k = 0; k < 4; k++) numbers.add(risen(k));
        if (text != null) {
            for (int what = 0; what <= 2; what++) numbers.add(settle(7, false, what));
            for (int what = 0; what <= 2; what++) numbers.add(settle(7, true, what));
        }
        for (char c : page.toCharArray()) numbers.add((int) c);
        for (int what = 0; what <= 11; what++) numbers.add(count(what));
        long h = 1741;
        for (int n : numbers) h = 31 * h + n;
        return h;
    }
}
