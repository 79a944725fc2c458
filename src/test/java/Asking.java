/** What tests of the promises have in common: objects made ready by calls, and answers compared with what is due. */
class Asking {
    static final int NONE = -1, UNKNOWN = -1001, OUTSIDE = -1002, STATE = -1003, FULL = -1004;
    static final int LEAST = Integer.MIN_VALUE, MOST = Integer.MAX_VALUE;
    static final int KEYS = 4;
    static final int LATEST = 9999;
    static final int[] WEIGHTS = {60, 30, 20, 15, 12};

    private static Check check = new Check("");
    private static String place = "";

    static void startChecks(String name) {
        check = new Check(name);
    }

    static void endChecks() {
        check.end();
    }

    static int checksSoFar() {
        return check.checks();
    }

    /** What is said ahead of each answer that is not as due: the promise, and its sentence where one is tested. */
    static void at(String newPlace) {
        place = newPlace;
    }

    static void due(String call, long got, long want) {
        check.due(place + ": " + call, got, want);
    }

    static void holds(String what, boolean is) {
        check.holds(place + ": " + what, is);
    }

    static void write(LateCopies x, String text) {
        x.blank();
        for (int i = 0; i < text.length(); i++) {
            x.letter(text.charAt(i));
        }
    }

    static void read(LateCopies x, String text) {
        write(x, text);
        due("line() of " + text, x.line(), text.length());
    }

    static LateCopies on(String text) {
        LateCopies x = new LateCopies();
        read(x, text);
        return x;
    }

    /** All that has() tells of a KEY at a SITE: sort, VALUE, STAMP, ACTIVATION, KEEPERS, DORMANT, HEAT. */
    static void item(LateCopies x, int site, int key, int... want) {
        for (int what = 0; what < want.length; what++) {
            due("has(" + site + ", " + key + ", " + what + ")", x.has(site, key, what), want[what]);
        }
    }

    static void nothing(LateCopies x, int site, int key) {
        item(x, site, key, 0, NONE, NONE, NONE, NONE, 0, 0);
    }

    static void value(LateCopies x, int site, int key, int v, int stamp, int heat) {
        item(x, site, key, 1, v, stamp, stamp, NONE, 0, heat);
    }

    static void counts(LateCopies x, int first, int... want) {
        for (int i = 0; i < want.length; i++) {
            due("count(" + (first + i) + ")", x.count(first + i), want[i]);
        }
    }

    /** Lets time pass in steps that pass() takes; 34 of them reach 9999. */
    static void passTo(LateCopies x, int now) {
        for (int n = 0; n < 34 && x.count(2) < now; n++) {
            x.pass(Math.min(300, now - x.count(2)));
        }
    }

    /** The SITES of these bits are OFF, all others are not. */
    static void offOnly(LateCopies x, int bits) {
        for (int site = 0; site < x.count(1); site++) {
            x.off(site, (bits >> site & 1) == 1);
        }
    }

    static long nextSeed(long seed) {
        return (1103515245L * seed + 12345L) % 2147483648L;
    }

    static long seedAfter(long first, int draws) {
        long seed = first;
        for (int n = 0; n < draws; n++) {
            seed = nextSeed(seed);
        }
        return seed;
    }

    static void outcome(LateCopies x, int seed, boolean rumours, int rounds, int traffic, long then) {
        String call = "settle(" + seed + ", " + rumours + ", ";
        due(call + "0)", x.settle(seed, rumours, 0), rounds);
        due(call + "1)", x.settle(seed, rumours, 1), traffic);
        due(call + "2)", x.settle(seed, rumours, 2), then);
    }

    /** Of KEY 0 a CERTIFICATE that sleeps and its VALUE, of others VALUES. */
    static LateCopies busy(String text) {
        LateCopies x = on(text);
        int last = text.length() - 1;
        x.set(0, 3);
        x.put(last, 0, 1);
        x.exchange(0, last);
        x.put(1, 2, 2);
        x.exchange(1, last);
        x.remove(0, 0, 2);
        x.pass(4);
        x.put(0, 1, 4);
        x.put(last, 1, 5);
        x.remove(1, 2, 3);
        return x;
    }

    /** What settle() tells is what comes of it as its ROUNDS are played with the other calls. */
    static void asPlayed(String text, int seed, boolean rumours, int offBits) {
        LateCopies x = busy(text);
        LateCopies twin = busy(text);
        LateCopies guide = on(text);
        offOnly(x, offBits);
        offOnly(twin, offBits);
        offOnly(guide, offBits);
        long[] played = play(twin, guide, seed, rumours);
        outcome(x, seed, rumours, (int) played[0], (int) played[1], played[2]);
    }

    /**
     * SETTLING played with the calls that change the object: ROUNDS, TRAFFIC by it, the SEED then. The guide, of
     * the same LINE with the same SITES OFF, tells PARTNERS, for either of both has its 512 calls alone.
     */
    private static long[] play(LateCopies x, LateCopies guide, int firstSeed, boolean rumours) {
        int seed = firstSeed;
        int before = x.count(4);
        int sites = x.count(1);
        int offBits = x.count(3);
        int rounds = 0;
        boolean settled = allOnAlike(x, sites, offBits);
        while (!settled && rounds < 40) {
            x.pass(1);
            for (int site = 0; site < sites; site++) {
                if ((offBits >> site & 1) == 1) {
                    continue;
                }
                int other = guide.partner(site, seed, 0);
                seed = (int) nextSeed(seed);
                if (rumours) {
                    x.rumour(site, other);
                } else {
                    x.exchange(site, other);
                }
            }
            rounds++;
            settled = allOnAlike(x, sites, offBits);
        }
        return new long[] {settled ? rounds : NONE, x.count(4) - before, seed};
    }

    private static boolean allOnAlike(LateCopies x, int sites, int offBits) {
        int first = NONE;
        for (int site = 0; site < sites; site++) {
            if ((offBits >> site & 1) == 1) {
                continue;
            }
            if (first != NONE && x.alike(first, site) == 0) {
                return false;
            }
            first = first == NONE ? site : first;
        }
        return true;
    }

    /** digest() put together from the other calls; no call tells the letters of THE PAGE, so they are given. */
    static long digestByCalls(LateCopies x, String page) {
        long h = 1741;
        int sites = x.count(1);
        for (int site = 0; site < sites; site++) {
            for (int key = 0; key < KEYS; key++) {
                for (int what = 0; what <= 6; what++) {
                    h = 31 * h + x.has(site, key, what);
                }
            }
            for (int kind = 0; kind <= 2; kind++) {
                h = 31 * h + x.newest(site, kind);
            }
            for (int other = 0; other < sites; other++) {
                h = 31 * h + x.alike(site, other);
            }
        }
        for (int key = 0; key < KEYS; key++) {
            h = 31 * h + x.risen(key);
        }
        for (int n = 0; n < 6 && sites > 0; n++) {
            h = 31 * h + x.settle(7, n >= 3, n % 3);
        }
        for (char letter : page.toCharArray()) {
            h = 31 * h + letter;
        }
        for (int what = 0; what <= 11; what++) {
            h = 31 * h + x.count(what);
        }
        return h;
    }
}
