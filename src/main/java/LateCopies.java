/**
 * Copies of a few keys at sites along a line, with deletions that stay deleted.
 * The document's words (SITE, KEY, ITEM, DORMANT, WOKEN ..) keep their meaning in the names here.
 */
public final class LateCopies {
    public static final int NONE = -1, UNKNOWN = -1001, OUTSIDE = -1002, STATE = -1003, FULL = -1004;

    private static final int KEYS = 4;
    private static final int ALL_KEYS = 15;
    private static final int LEAST_SITES = 2;
    private static final int MOST_SITES = 6;
    private static final int LATEST_NOW = 9999;
    private static final int MOST_ROUNDS = 40;
    private static final int DIGEST_SEED = 7;
    private static final int COUNTS = 12;

    // What has() answers for 0.
    private static final int NOTHING = 0;
    private static final int VALUE = 1;
    private static final int CERTIFICATE = 2;

    // What set() takes, and the bounds of each.
    private static final int SHORT = 0;
    private static final int LONG = 1;
    private static final int INTEREST = 2;
    private static final int RECENT = 3;
    private static final int[] LEAST_LIMITS = {1, 0, 1, 0};
    private static final int[] MOST_LIMITS = {50, 200, 3, 50};

    private static final int[] WEIGHTS = {60, 30, 20, 15, 12};

    private final Page page;
    private final World world;
    private final Settling settling;
    private int linesRead;

    public LateCopies() {
        page = new Page();
        world = new World();
        settling = new Settling();
    }

    // ---- texts

    public int letter(int code) {
        if (code < 32 || code > 126) {
            return OUTSIDE;
        }
        if (page.length >= MOST_SITES) {
            return FULL;
        }
        page.append(code);
        return page.length;
    }

    public int blank() {
        int had = page.length;
        page.length = 0;
        return had;
    }

    public int fault() {
        return page.firstWrongPlace();
    }

    public int line() {
        if (!page.isLine()) {
            return STATE;
        }
        world.startLine(page);
        page.length = 0;
        linesRead++;
        return world.sites;
    }

    // ---- what is done

    public int set(int what, int v) {
        if (what < SHORT || what > RECENT) {
            return OUTSIDE;
        }
        if (v < LEAST_LIMITS[what] || v > MOST_LIMITS[what]) {
            return OUTSIDE;
        }
        int was = world.limits[what];
        world.limits[what] = v;
        world.dropGone();
        return was;
    }

    public int put(int site, int key, int v) {
        if (!world.knowsSite(site) || !isKey(key)) {
            return UNKNOWN;
        }
        if (v < 0 || v > 9) {
            return OUTSIDE;
        }
        if (world.isOff(site)) {
            return STATE;
        }
        if (world.now >= LATEST_NOW) {
            return FULL;
        }
        return world.putValue(site, key, v);
    }

    public int remove(int site, int key, int keepers) {
        if (!world.knowsSite(site) || !isKey(key)) {
            return UNKNOWN;
        }
        if (keepers < 1 || keepers > 3) {
            return OUTSIDE;
        }
        if (world.isOff(site) || world.itemAt(site, key).sort != VALUE) {
            return STATE;
        }
        if (world.now >= LATEST_NOW) {
            return FULL;
        }
        return world.removeValue(site, key, keepers);
    }

    public int pass(int n) {
        if (n < 1 || n > 300) {
            return OUTSIDE;
        }
        if (world.sites == 0) {
            return STATE;
        }
        if (world.now > LATEST_NOW - n) {
            return FULL;
        }
        return world.advance(n);
    }

    public int off(int site, boolean is) {
        if (!world.knowsSite(site)) {
            return UNKNOWN;
        }
        int was = world.isOff(site) ? 1 : 0;
        int bit = 1 << site;
        world.offSites = is ? world.offSites | bit : world.offSites & ~bit;
        return was;
    }

    public int exchange(int a, int b) {
        int refusal = refusalOfPair(a, b);
        return refusal != 0 ? refusal : world.compareAll(a, b);
    }

    public int rumour(int a, int b) {
        int refusal = refusalOfPair(a, b);
        return refusal != 0 ? refusal : world.tellHot(a, b);
    }

    private int refusalOfPair(int a, int b) {
        if (!world.knowsSite(a) || !world.knowsSite(b) || a == b) {
            return UNKNOWN;
        }
        return world.isOff(a) || world.isOff(b) ? STATE : 0;
    }

    // ---- what is told

    public int has(int site, int key, int what) {
        if (!world.knowsSite(site) || !isKey(key)) {
            return UNKNOWN;
        }
        Item item = world.itemAt(site, key);
        switch (what) {
            case 0: return item.sort;
            case 1: return item.value;
            case 2: return item.stamp;
            case 3: return item.activation;
            case 4: return item.keepers;
            case 5: return world.isDormant(item) ? 1 : 0;
            case 6: return item.heat;
            default: return OUTSIDE;
        }
    }

    public int newest(int site, int kind) {
        if (!world.knowsSite(site)) {
            return UNKNOWN;
        }
        if (kind < 0 || kind > 2) {
            return OUTSIDE;
        }
        return world.newestKey(site, kind);
    }

    public int alike(int a, int b) {
        if (!world.knowsSite(a) || !world.knowsSite(b)) {
            return UNKNOWN;
        }
        return world.areAlike(a, b) ? 1 : 0;
    }

    public int risen(int key) {
        if (!isKey(key)) {
            return UNKNOWN;
        }
        return world.risenSites(key);
    }

    public int partner(int site, int seed, int what) {
        if (!world.knowsSite(site)) {
            return UNKNOWN;
        }
        if (seed < 0 || what < 0 || what > 1) {
            return OUTSIDE;
        }
        // With nobody to choose from there is no DRAW, so the SEED stays as it came.
        int next = world.othersOn(site) == 0 ? seed : nextSeed(seed);
        return what == 0 ? world.partnerBy(site, next) : next;
    }

    public int settle(int seed, boolean rumours, int what) {
        if (seed < 0 || what < 0 || what > 2) {
            return OUTSIDE;
        }
        if (world.sites == 0) {
            return STATE;
        }
        settling.run(world, seed, rumours);
        return settling.outcome(what);
    }

    public int count(int what) {
        switch (what) {
            case 0: return page.length;
            case 1: return world.sites;
            case 2: return world.now;
            case 3: return world.offSites;
            case 4: return world.traffic;
            case 5: return world.woken;
            case 6: return world.gone;
            case 7: return world.limits[SHORT];
            case 8: return world.limits[LONG];
            case 9: return world.limits[INTEREST];
            case 10: return world.limits[RECENT];
            case 11: return linesRead;
            default: return OUTSIDE;
        }
    }

    public long digest() {
        long h = 1741;
        for (int site = 0; site < world.sites; site++) {
            h = mixSite(h, site);
        }
        for (int key = 0; key < KEYS; key++) {
            h = mix(h, risen(key));
        }
        for (int way = 0; way < 2 && world.sites > 0; way++) {
            settling.run(world, DIGEST_SEED, way == 1);
            for (int what = 0; what <= 2; what++) {
                h = mix(h, settling.outcome(what));
            }
        }
        for (int place = 0; place < page.length; place++) {
            h = mix(h, page.codes[place]);
        }
        for (int what = 0; what < COUNTS; what++) {
            h = mix(h, count(what));
        }
        return h;
    }

    private long mixSite(long start, int site) {
        long h = start;
        for (int key = 0; key < KEYS; key++) {
            for (int what = 0; what <= 6; what++) {
                h = mix(h, has(site, key, what));
            }
        }
        for (int kind = 0; kind <= 2; kind++) {
            h = mix(h, newest(site, kind));
        }
        for (int other = 0; other < world.sites; other++) {
            h = mix(h, alike(site, other));
        }
        return h;
    }

    private static long mix(long h, int number) {
        return 31L * h + number;
    }

    private static boolean isKey(int key) {
        return key >= 0 && key < KEYS;
    }

    private static int nextSeed(int seed) {
        return (int) ((1103515245L * seed + 12345L) & 0x7fffffffL);
    }

    /** THE PAGE: letters that may become a LINE. */
    private static final class Page {
        private final int[] codes = new int[MOST_SITES];
        private int length;

        private void append(int code) {
            if (length < MOST_SITES) {
                codes[length] = code;
                length++;
            }
        }

        // Every right beginning can go on with 9s, so only the letter itself and the one ahead matter.
        private int firstWrongPlace() {
            int least = '0';
            for (int place = 0; place < length; place++) {
                int code = codes[place];
                if (code < least || code > '9') {
                    return place;
                }
                least = code;
            }
            return length;
        }

        private boolean isLine() {
            return length >= LEAST_SITES && firstWrongPlace() == length;
        }
    }

    /** What a SITE has of a KEY. What an ITEM of its sort does not have is NONE, as has() tells it. */
    private static final class Item {
        private int sort;
        private int value;
        private int stamp;
        private int activation;
        private int keepers;
        private int heat;

        private Item() {
            becomeNothing();
        }

        private void becomeNothing() {
            sort = NOTHING;
            value = NONE;
            stamp = NONE;
            activation = NONE;
            keepers = NONE;
            heat = 0;
        }

        private void becomeValue(int newValue, int now, int interest) {
            sort = VALUE;
            value = newValue;
            stamp = now;
            activation = now;
            keepers = NONE;
            heat = interest;
        }

        private void becomeCertificate(int newKeepers, int now, int interest) {
            sort = CERTIFICATE;
            value = NONE;
            stamp = now;
            activation = now;
            keepers = newKeepers;
            heat = interest;
        }

        private void becomeCopy(Item other, int newHeat) {
            sort = other.sort;
            value = other.value;
            stamp = other.stamp;
            activation = other.activation;
            keepers = other.keepers;
            heat = newHeat;
        }

        // STAMPS begin with 1 and nothing has NONE, so every ITEM is NEWER than nothing.
        private boolean isNewer(Item other) {
            return stamp > other.stamp || stamp == other.stamp && activation > other.activation;
        }

        private boolean isItemBelow(int otherStamp) {
            return sort != NOTHING && stamp < otherStamp;
        }
    }

    /** A LINE with all that its SITES have, and what set() told. It has no SITES as long as no LINE was read. */
    private static final class World {
        private final int[] limits = {10, 40, 2, 5};
        private final int[] positions = new int[MOST_SITES];
        private final Item[] items = new Item[MOST_SITES * KEYS];
        private final int[] latestRemovals = new int[KEYS];
        private int sites;
        private int now;
        private int offSites;
        private int traffic;
        private int woken;
        private int gone;

        private World() {
            for (int place = 0; place < items.length; place++) {
                items[place] = new Item();
            }
        }

        private void startLine(Page page) {
            sites = page.length;
            now = 0;
            offSites = 0;
            traffic = 0;
            woken = 0;
            gone = 0;
            for (int site = 0; site < MOST_SITES; site++) {
                positions[site] = page.codes[site];
            }
            for (int key = 0; key < KEYS; key++) {
                latestRemovals[key] = 0;
            }
            for (int place = 0; place < items.length; place++) {
                items[place].becomeNothing();
            }
        }

        // SETTLING asks for nothing but TRAFFIC of its own: what was WOKEN, GONE or REMOVED stays behind.
        private void startTrial(World other) {
            sites = other.sites;
            now = other.now;
            offSites = other.offSites;
            traffic = 0;
            System.arraycopy(other.limits, 0, limits, 0, limits.length);
            System.arraycopy(other.positions, 0, positions, 0, MOST_SITES);
            for (int place = 0; place < items.length; place++) {
                items[place].becomeCopy(other.items[place], other.items[place].heat);
            }
        }

        private boolean knowsSite(int site) {
            return site >= 0 && site < sites;
        }

        private boolean isOff(int site) {
            return (offSites >> site & 1) == 1;
        }

        private Item itemAt(int site, int key) {
            return items[site * KEYS + key];
        }

        // ---- NOW, and what becomes of CERTIFICATES by it

        private int advance(int n) {
            now += n;
            return dropGone();
        }

        private int dropGone() {
            int dropped = 0;
            for (int site = 0; site < sites; site++) {
                for (int key = 0; key < KEYS; key++) {
                    Item item = itemAt(site, key);
                    if (isDormant(item) && !isKept(item, site)) {
                        item.becomeNothing();
                        dropped++;
                    }
                }
            }
            gone += dropped;
            return dropped;
        }

        private boolean isDormant(Item item) {
            return item.sort == CERTIFICATE && now - item.activation > limits[SHORT];
        }

        private boolean isAwake(Item item) {
            return item.sort == VALUE || item.sort == CERTIFICATE && now - item.activation <= limits[SHORT];
        }

        private boolean isKept(Item dormant, int site) {
            boolean isKeeper = (dormant.keepers >> site & 1) == 1;
            return isKeeper && now - dormant.activation <= limits[SHORT] + limits[LONG];
        }

        private void wake(Item dormant) {
            dormant.activation = now;
            dormant.heat = limits[INTEREST];
            woken++;
        }

        // ---- putting and removing

        // NOW comes first: a CERTIFICATE that ends by it is GONE before the VALUE takes its place.
        private int putValue(int site, int key, int value) {
            advance(1);
            itemAt(site, key).becomeValue(value, now, limits[INTEREST]);
            return now;
        }

        private int removeValue(int site, int key, int keepers) {
            advance(1);
            itemAt(site, key).becomeCertificate(keepersOf(site, keepers), now, limits[INTEREST]);
            latestRemovals[key] = now;
            return now;
        }

        private int keepersOf(int site, int howMany) {
            int keepers = 1 << site;
            int others = othersOf(site);
            for (int n = 1; n < howMany && others != 0; n++) {
                int bit = 1 << nearest(site, others);
                keepers |= bit;
                others &= ~bit;
            }
            return keepers;
        }

        // ---- two SITES

        private int compareAll(int a, int b) {
            int first = recentKeys(a, b);
            int copies = meetKeys(a, b, first);
            if (!areAlike(a, b)) {
                copies += meetKeys(a, b, ALL_KEYS & ~first);
            }
            return copies;
        }

        private int recentKeys(int a, int b) {
            int keys = 0;
            for (int key = 0; key < KEYS; key++) {
                if (isRecent(itemAt(a, key)) || isRecent(itemAt(b, key))) {
                    keys |= 1 << key;
                }
            }
            return keys;
        }

        private boolean isRecent(Item item) {
            return isAwake(item) && now - item.activation < limits[RECENT];
        }

        // KEYS do not touch one another, so TRAFFIC of each may be counted just ahead of its own meeting.
        private int meetKeys(int a, int b, int keys) {
            int copies = 0;
            for (int key = 0; key < KEYS; key++) {
                if ((keys >> key & 1) == 1) {
                    Item one = itemAt(a, key);
                    Item other = itemAt(b, key);
                    traffic += (isAwake(one) ? 1 : 0) + (isAwake(other) ? 1 : 0);
                    copies += meet(one, other);
                }
            }
            return copies;
        }

        private int meet(Item one, Item other) {
            if (isDormant(one) && other.isItemBelow(one.stamp)) {
                wake(one);
            } else if (isDormant(other) && one.isItemBelow(other.stamp)) {
                wake(other);
            }
            if (isAwake(one) && one.isNewer(other)) {
                other.becomeCopy(one, 0);
                return 1;
            }
            if (isAwake(other) && other.isNewer(one)) {
                one.becomeCopy(other, 0);
                return 1;
            }
            return 0;
        }

        private int tellHot(int teller, int hearer) {
            int copies = 0;
            for (int key = 0; key < KEYS; key++) {
                Item told = itemAt(teller, key);
                if (told.heat > 0 && isAwake(told)) {
                    traffic++;
                    copies += tell(told, itemAt(hearer, key));
                }
            }
            return copies;
        }

        private int tell(Item told, Item heard) {
            if (told.isNewer(heard)) {
                heard.becomeCopy(told, limits[INTEREST]);
                return 1;
            }
            told.heat--;
            if (isDormant(heard) && told.isItemBelow(heard.stamp)) {
                wake(heard);
            }
            return 0;
        }

        private boolean areAlike(int a, int b) {
            for (int key = 0; key < KEYS; key++) {
                if (!isSame(itemAt(a, key), itemAt(b, key))) {
                    return false;
                }
            }
            return true;
        }

        private boolean isSame(Item one, Item other) {
            if (!isAwake(one) || !isAwake(other)) {
                return !isAwake(one) && !isAwake(other);
            }
            return one.stamp == other.stamp && one.activation == other.activation;
        }

        // Being ALIKE carries over from pair to pair, so each SITE is compared with the one ahead alone.
        private boolean allOnAlike() {
            int ahead = NONE;
            for (int site = 0; site < sites; site++) {
                if (!isOff(site)) {
                    if (ahead != NONE && !areAlike(ahead, site)) {
                        return false;
                    }
                    ahead = site;
                }
            }
            return true;
        }

        // ---- one SITE, one KEY

        private int newestKey(int site, int kind) {
            int best = NONE;
            for (int key = 0; key < KEYS; key++) {
                Item item = itemAt(site, key);
                boolean counts = kind == 0 ? item.sort != NOTHING : item.sort == kind;
                if (counts && (best == NONE || item.isNewer(itemAt(site, best)))) {
                    best = key;
                }
            }
            return best;
        }

        private int risenSites(int key) {
            int bits = 0;
            for (int site = 0; site < sites; site++) {
                Item item = itemAt(site, key);
                if (item.sort == VALUE && item.stamp < latestRemovals[key]) {
                    bits |= 1 << site;
                }
            }
            return bits;
        }

        // ---- who is near

        private int othersOf(int site) {
            return (1 << sites) - 1 & ~(1 << site);
        }

        private int othersOn(int site) {
            return othersOf(site) & ~offSites;
        }

        private int nearest(int site, int among) {
            int best = NONE;
            int bestDistance = 0;
            for (int other = 0; other < sites; other++) {
                int distance = Math.abs(positions[other] - positions[site]);
                boolean isAmong = (among >> other & 1) == 1;
                if (isAmong && (best == NONE || distance < bestDistance)) {
                    best = other;
                    bestDistance = distance;
                }
            }
            return best;
        }

        private int partnerBy(int site, int seed) {
            int others = othersOn(site);
            int total = weightOf(Integer.bitCount(others));
            if (total <= 0) {
                return NONE;
            }
            int draw = seed / 65536 % total;
            int sum = 0;
            for (int rank = 0; rank < WEIGHTS.length && others != 0; rank++) {
                int candidate = nearest(site, others);
                sum += WEIGHTS[rank];
                if (sum > draw) {
                    return candidate;
                }
                others &= ~(1 << candidate);
            }
            return NONE;
        }

        private static int weightOf(int howMany) {
            int total = 0;
            for (int rank = 0; rank < WEIGHTS.length && rank < howMany; rank++) {
                total += WEIGHTS[rank];
            }
            return total;
        }
    }

    /** SETTLING as it would be: it plays on a copy that is made once and used again by every call. */
    private static final class Settling {
        private final World trial = new World();
        private int rounds;
        private int seed;

        private void run(World start, int firstSeed, boolean rumours) {
            trial.startTrial(start);
            seed = firstSeed;
            boolean settled = trial.allOnAlike();
            int played = 0;
            while (!settled && played < MOST_ROUNDS) {
                playRound(rumours);
                played++;
                settled = trial.allOnAlike();
            }
            rounds = settled ? played : NONE;
        }

        private void playRound(boolean rumours) {
            trial.advance(1);
            for (int site = 0; site < trial.sites; site++) {
                if (trial.isOff(site) || trial.othersOn(site) == 0) {
                    continue;
                }
                seed = nextSeed(seed);
                int other = trial.partnerBy(site, seed);
                if (other == NONE) {
                    continue;
                }
                if (rumours) {
                    trial.tellHot(site, other);
                } else {
                    trial.compareAll(site, other);
                }
            }
        }

        private int outcome(int what) {
            switch (what) {
                case 0: return rounds;
                case 1: return trial.traffic;
                default: return seed;
            }
        }
    }
}
