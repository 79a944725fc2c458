import java.math.BigInteger;

/** Promises 13 to 16, 19 and 20: what SITES have, and what is told of all together. */
final class TellingBoundaries extends Boundaries {
    private TellingBoundaries() {
    }

    static void all() {
        hasSort();
        hasNumbers();
        hasDormant();
        hasHeat();
        hasUnknown();
        hasOutside();
        newestOfKind();
        newestNone();
        newestUnknown();
        newestOutside();
        alikeTells();
        alikeSame();
        alikeUnknown();
        risenBelow();
        risenEver();
        risenUnknown();
        counted();
        countedOfLine();
        countOutside();
        digestWraps();
        digestOrder();
        digestWithoutLine();
        digestOfMuch();
    }

    private static void hasSort() {
        sentence(13, "What a SITE has of a KEY: what = 0 the sort (0 nothing, 1 a VALUE, 2 a CERTIFICATE)");
        LateCopies x = on("000000");
        for (int site = 0; site < 6; site += 5) {
            for (int key = 0; key < KEYS; key += 3) {
                due("nothing", x.has(site, key, 0), 0);
                x.put(site, key, 0);
                due("a VALUE", x.has(site, key, 0), 1);
                x.off(site, true);
                due("a VALUE, OFF", x.has(site, key, 0), 1);
                x.off(site, false);
                x.remove(site, key, 1);
                due("a CERTIFICATE", x.has(site, key, 0), 2);
                due("nothing at the next SITE", x.has(site ^ 1, key, 0), 0);
                due("nothing of the next KEY", x.has(site, key ^ 1, 0), 0);
            }
        }
        x.pass(3);
        due("a CERTIFICATE at SHORT", x.has(0, 0, 0), 2);
        x.pass(20);
        due("a DORMANT one", x.has(0, 0, 0), 2);
        x.pass(300);
        due("one that is GONE", x.has(0, 0, 0), 0);
    }

    private static void hasNumbers() {
        sentence(13, "1 the VALUE, 2 STAMP, 3 ACTIVATION, 4 KEEPERS, as bits (1 to 4: NONE, if there is none such)");
        LateCopies x = on("000000");
        for (int what = 1; what <= 4; what++) {
            due("nothing: has(5, 3, " + what + ")", x.has(5, 3, what), NONE);
        }
        x.put(5, 3, 0);
        item(x, 5, 3, 1, 0, 1, 1, NONE);
        x.put(5, 3, 9);
        item(x, 5, 3, 1, 9, 2, 2, NONE);
        x.remove(5, 3, 1);
        item(x, 5, 3, 2, NONE, 3, 3, 32);
        x.put(0, 0, 1);
        x.remove(0, 0, 3);
        item(x, 0, 0, 2, NONE, 5, 5, 7);
        // What is GONE leaves none of its numbers.
        x.pass(51);
        for (int what = 1; what <= 4; what++) {
            due("GONE: has(5, 3, " + what + ")", x.has(5, 3, what), NONE);
        }
        passTo(x, 9998);
        x.put(0, 0, 1);
        item(x, 0, 0, 1, 1, 9999, 9999, NONE);
    }

    private static void hasDormant() {
        sentence(13, "5 whether it is DORMANT (1, 0)");
        LateCopies x = on("05");
        due("nothing", x.has(0, 0, 5), 0);
        x.put(0, 0, 1);
        x.put(1, 0, 1);
        x.remove(0, 0, 1);
        due("a CERTIFICATE", x.has(0, 0, 5), 0);
        x.pass(10);
        due("at SHORT", x.has(0, 0, 5), 0);
        x.pass(1);
        due("above SHORT", x.has(0, 0, 5), 1);
        due("an old VALUE", x.has(1, 0, 5), 0);
        x.off(0, true);
        due("OFF", x.has(0, 0, 5), 1);
        x.pass(39);
        due("at SHORT and LONG", x.has(0, 0, 5), 1);
        x.pass(1);
        due("GONE", x.has(0, 0, 5), 0);
    }

    private static void hasHeat() {
        sentence(13, "6 HEAT (0 without an ITEM).");
        LateCopies x = on("05");
        due("nothing", x.has(0, 0, 6), 0);
        x.put(0, 0, 1);
        due("a VALUE", x.has(0, 0, 6), 2);
        x.rumour(0, 1);
        x.rumour(0, 1);
        due("told twice", x.has(0, 0, 6), 1);
        x.rumour(0, 1);
        x.rumour(0, 1);
        due("not below 0", x.has(0, 0, 6), 0);
        x.remove(0, 0, 1);
        due("a CERTIFICATE", x.has(0, 0, 6), 2);
        x.pass(11);
        due("a DORMANT one", x.has(0, 0, 6), 2);
        x.pass(40);
        due("one that is GONE", x.has(0, 0, 6), 0);
    }

    private static void hasUnknown() {
        sentence(13, "UNKNOWN: site, key");
        LateCopies x = on("05");
        for (int what = -1; what <= 7; what++) {
            for (int wrong : new int[] {-1, LEAST, MOST}) {
                due("has(" + wrong + ", 0, " + what + ")", x.has(wrong, 0, what), UNKNOWN);
                due("has(0, " + wrong + ", " + what + ")", x.has(0, wrong, what), UNKNOWN);
            }
            due("has(2, 0, " + what + ")", x.has(2, 0, what), UNKNOWN);
            due("has(1, 4, " + what + ")", x.has(1, 4, what), UNKNOWN);
        }
        due("has(1, 3, 0)", x.has(1, 3, 0), 0);
        due("has(6, 0, 0) on six SITES", on("000000").has(6, 0, 0), UNKNOWN);
    }

    private static void hasOutside() {
        sentence(13, "OUTSIDE.");
        LateCopies x = on("05");
        x.put(0, 0, 1);
        for (int what : new int[] {-1, 7, 8, LEAST, MOST}) {
            due("has(0, 0, " + what + ")", x.has(0, 0, what), OUTSIDE);
            due("has(1, 3, " + what + ")", x.has(1, 3, what), OUTSIDE);
        }
        due("has(0, 0, 0)", x.has(0, 0, 0), 1);
        due("has(0, 0, 6)", x.has(0, 0, 6), 2);
    }

    private static void newestIs(LateCopies x, int site, int any, int values, int certificates) {
        due("newest(" + site + ", 0)", x.newest(site, 0), any);
        due("newest(" + site + ", 1)", x.newest(site, 1), values);
        due("newest(" + site + ", 2)", x.newest(site, 2), certificates);
    }

    private static void newestOfKind() {
        sentence(14, "ITEMS that a SITE has, taken as a KIND (0 any, 1 VALUES, 2 CERTIFICATES): the KEY of the NEWEST one of these;");
        LateCopies x = on("055");
        x.put(0, 3, 1);
        newestIs(x, 0, 3, 3, NONE);
        x.put(0, 0, 1);
        newestIs(x, 0, 0, 0, NONE);
        x.put(0, 2, 1);
        newestIs(x, 0, 2, 2, NONE);
        x.remove(0, 3, 2);
        newestIs(x, 0, 3, 2, 3);
        x.put(0, 1, 1);
        newestIs(x, 0, 1, 1, 3);
        x.remove(0, 0, 1);
        newestIs(x, 0, 0, 1, 0);
        x.off(0, true);
        newestIs(x, 0, 0, 1, 0);
        x.off(0, false);
        x.pass(11);
        newestIs(x, 0, 0, 1, 0);
        // By STAMP ahead of ACTIVATION: KEY 3 (STAMP 3) is WOKEN later than KEY 0 (STAMP 4) began.
        LateCopies y = on("055");
        y.set(0, 2);
        y.put(1, 3, 1);
        y.exchange(0, 1);
        y.put(0, 0, 1);
        y.remove(0, 3, 1);
        y.remove(0, 0, 1);
        y.pass(3);
        y.exchange(0, 1);
        item(y, 0, 3, 2, NONE, 3, 7, 1, 0, 2);
        item(y, 0, 0, 2, NONE, 4, 4, 1, 1, 2);
        newestIs(y, 0, 0, NONE, 0);
        // A copy that came late is as old as its STAMP.
        LateCopies z = on("05");
        z.put(0, 2, 1);
        z.put(1, 1, 1);
        z.exchange(0, 1);
        newestIs(z, 0, 1, 1, NONE);
        newestIs(z, 1, 1, 1, NONE);
    }

    private static void newestNone() {
        sentence(14, "NONE.");
        LateCopies x = on("000000");
        for (int site = 0; site < 6; site++) {
            newestIs(x, site, NONE, NONE, NONE);
        }
        x.put(5, 0, 1);
        newestIs(x, 5, 0, 0, NONE);
        newestIs(x, 4, NONE, NONE, NONE);
        x.remove(5, 0, 1);
        newestIs(x, 5, 0, NONE, 0);
        x.pass(51);
        newestIs(x, 5, NONE, NONE, NONE);
    }

    private static void newestUnknown() {
        sentence(14, "UNKNOWN: site");
        LateCopies x = on("05");
        for (int wrong : new int[] {-1, 2, 6, LEAST, MOST}) {
            for (int kind = -1; kind <= 3; kind++) {
                due("newest(" + wrong + ", " + kind + ")", x.newest(wrong, kind), UNKNOWN);
            }
        }
        due("newest(1, 0)", x.newest(1, 0), NONE);
    }

    private static void newestOutside() {
        sentence(14, "OUTSIDE: kind.");
        LateCopies x = on("05");
        x.put(0, 0, 1);
        for (int kind : new int[] {-1, 3, LEAST, MOST}) {
            due("newest(0, " + kind + ")", x.newest(0, kind), OUTSIDE);
            due("newest(1, " + kind + ")", x.newest(1, kind), OUTSIDE);
        }
        due("newest(0, 2)", x.newest(0, 2), NONE);
    }

    private static void alikeIs(LateCopies x, int a, int b, int want) {
        due("alike(" + a + ", " + b + ")", x.alike(a, b), want);
        due("alike(" + b + ", " + a + ")", x.alike(b, a), want);
        due("alike(" + a + ", " + a + ")", x.alike(a, a), 1);
    }

    private static void alikeTells() {
        sentence(15, "Whether two SITES are ALIKE (1, 0).");
        LateCopies x = on("000000");
        alikeIs(x, 0, 5, 1);
        x.put(5, 3, 1);
        alikeIs(x, 0, 5, 0);
        alikeIs(x, 0, 4, 1);
        x.off(5, true);
        alikeIs(x, 0, 5, 0);
        x.off(0, true);
        alikeIs(x, 0, 5, 0);
        alikeIs(x, 0, 4, 1);
        due("NOW stays", x.count(2), 1);
        due("TRAFFIC stays", x.count(4), 0);
    }

    private static void alikeSame() {
        sentence(15, "ALIKE are two SITES, if of each KEY they have the same (the same STAMP and ACTIVATION, or nothing), DORMANT ones taken for nothing.");
        for (int key = 0; key < KEYS; key++) {
            LateCopies x = on("05");
            x.put(0, key, 1);
            alikeIs(x, 0, 1, 0);
            x.put(1, key, 1);
            alikeIs(x, 0, 1, 0);
            x.exchange(0, 1);
            alikeIs(x, 0, 1, 1);
            x.remove(0, key, 2);
            alikeIs(x, 0, 1, 0);
            x.rumour(0, 1);
            alikeIs(x, 0, 1, 1);
            x.pass(11);
            alikeIs(x, 0, 1, 1);
        }
        LateCopies y = on("055");
        y.set(0, 2);
        y.put(0, 0, 1);
        y.exchange(0, 2);
        y.remove(0, 0, 2);
        y.pass(2);
        alikeIs(y, 0, 1, 0);
        y.pass(1);
        due("DORMANT, and nothing", y.has(0, 0, 5), 1);
        alikeIs(y, 0, 1, 1);
        due("DORMANT, and a VALUE", y.has(2, 0, 0), 1);
        alikeIs(y, 0, 2, 0);
        y.set(0, 3);
        alikeIs(y, 0, 1, 0);
        y.exchange(0, 1);
        alikeIs(y, 0, 1, 1);
        y.set(0, 2);
        alikeIs(y, 0, 1, 1);
        y.exchange(1, 2);
        due("a DORMANT one, and one of a like STAMP that was WOKEN", y.has(1, 0, 3), 5);
        alikeIs(y, 0, 1, 0);
        y.set(0, 50);
        due("both awake, of like STAMPS, ACTIVATIONS 2 and 5", y.has(0, 0, 5), 0);
        alikeIs(y, 0, 1, 0);
        alikeIs(y, 1, 2, 1);
        LateCopies z = on("05");
        z.set(0, 2);
        z.put(0, 0, 1);
        z.put(1, 0, 1);
        z.remove(0, 0, 1);
        z.remove(1, 0, 1);
        z.pass(3);
        due("DORMANT ones of other STAMPS", z.has(1, 0, 2), 4);
        alikeIs(z, 0, 1, 1);
        alikeByStampToo();
    }

    /** A VALUE of STAMP 6, and a CERTIFICATE of STAMP 2 that is WOKEN at 6. */
    private static void alikeByStampToo() {
        LateCopies x = on("055");
        x.set(0, 2);
        x.put(0, 0, 1);
        x.exchange(0, 2);
        x.remove(0, 0, 1);
        x.pass(3);
        x.put(1, 0, 1);
        x.exchange(0, 2);
        due("ACTIVATION at 0", x.has(0, 0, 3), 6);
        due("ACTIVATION at 1", x.has(1, 0, 3), 6);
        alikeIs(x, 0, 1, 0);
        alikeIs(x, 0, 2, 1);
    }

    private static void alikeUnknown() {
        sentence(15, "UNKNOWN: a, b.");
        LateCopies x = on("05");
        for (int wrong : new int[] {-1, 2, 6, LEAST, MOST}) {
            due("alike(" + wrong + ", 0)", x.alike(wrong, 0), UNKNOWN);
            due("alike(0, " + wrong + ")", x.alike(0, wrong), UNKNOWN);
            due("alike(" + wrong + ", " + wrong + ")", x.alike(wrong, wrong), UNKNOWN);
        }
        due("alike(1, 1): the same one is known", x.alike(1, 1), 1);
    }

    private static void risenBelow() {
        sentence(16, "SITES that have a VALUE of a KEY with a STAMP less than that of the latest CERTIFICATE");
        LateCopies x = on("000000");
        due("none", x.risen(0), 0);
        for (int site = 0; site < 6; site++) {
            x.put(site, 0, 1);
        }
        due("no CERTIFICATE", x.risen(0), 0);
        x.remove(0, 0, 1);
        due("STAMPS 2 to 6, less than 7", x.risen(0), 62);
        due("of another KEY", x.risen(1), 0);
        x.put(0, 0, 1);
        due("STAMP 8, greater than 7", x.risen(0), 62);
        x.remove(5, 0, 1);
        due("STAMPS 2 to 5 and 8, less than 9", x.risen(0), 31);
        x.put(1, 3, 1);
        x.remove(1, 3, 1);
        due("KEY 3: the CERTIFICATE is no VALUE", x.risen(3), 0);
        due("KEY 0 stays", x.risen(0), 31);
        x.put(2, 3, 1);
        x.remove(2, 3, 1);
        due("KEY 3: nor is an older CERTIFICATE", x.risen(3), 0);
        LateCopies y = on("05");
        y.put(0, 0, 1);
        y.put(1, 0, 1);
        y.remove(0, 0, 1);
        due("a STAMP less by 1", y.risen(0), 2);
        y.put(1, 0, 1);
        due("a STAMP greater by 1", y.risen(0), 0);
    }

    private static void risenEver() {
        sentence(16, "that this KEY ever got by remove() (of this LINE), as bits.");
        LateCopies x = on("059");
        x.put(2, 1, 1);
        x.exchange(0, 2);
        x.off(2, true);
        x.remove(0, 1, 1);
        due("OFF or not", x.risen(1), 4);
        x.pass(51);
        due("GONE", x.count(6), 1);
        due("its CERTIFICATE is GONE", x.risen(1), 4);
        x.off(2, false);
        x.exchange(0, 2);
        due("it rises again", x.risen(1), 5);
        x.rumour(2, 1);
        due("by a RUMOUR, too", x.risen(1), 7);
        x.put(1, 1, 1);
        due("a VALUE in the place of one", x.risen(1), 5);
        x.exchange(0, 1);
        due("a later VALUE came", x.risen(1), 4);
        x.remove(1, 1, 1);
        due("a later CERTIFICATE", x.risen(1), 5);
        x.put(1, 1, 1);
        due("overwritten, yet the KEY got it", x.risen(1), 5);
        read(x, "059");
        x.put(0, 1, 1);
        due("of this LINE", x.risen(1), 0);
        x.put(1, 1, 1);
        x.remove(1, 1, 1);
        due("of this LINE", x.risen(1), 1);
    }

    private static void risenUnknown() {
        sentence(16, "UNKNOWN: key.");
        LateCopies x = new LateCopies();
        for (int n = 0; n < 2; n++) {
            for (int key : new int[] {-1, 4, LEAST, MOST}) {
                due("risen(" + key + ")", x.risen(key), UNKNOWN);
            }
            for (int key = 0; key < KEYS; key++) {
                due("risen(" + key + ")", x.risen(key), 0);
            }
            read(x, "05");
        }
    }

    private static void counted() {
        sentence(19, "How many: 0 letters of THE PAGE, 1 SITES, 2 NOW, 3 OFF SITES, as bits, 4 TRAFFIC, 5 CERTIFICATES that were WOKEN, 6 that are GONE (at SITES; by what they became by NOW or set()), 7 SHORT, 8 LONG, 9 INTEREST, 10 RECENT, 11 how often a LINE was read");
        LateCopies x = new LateCopies();
        counts(x, 0, 0, 0, 0, 0, 0, 0, 0, 10, 40, 2, 5, 0);
        write(x, "01x9~ ");
        due("letters", x.count(0), 6);
        read(x, "013579");
        counts(x, 0, 0, 6, 0, 0, 0, 0, 0, 10, 40, 2, 5, 1);
        x.set(0, 2);
        x.set(1, 3);
        x.set(2, 1);
        x.set(3, 4);
        x.put(0, 0, 1);
        x.put(0, 1, 1);
        x.exchange(0, 5);
        x.remove(0, 0, 1);
        x.remove(0, 1, 1);
        x.rumour(0, 3);
        x.pass(3);
        offOnly(x, 33);
        counts(x, 0, 0, 6, 7, 33, 4, 0, 2, 2, 3, 1, 4, 1);
        offOnly(x, 0);
        x.exchange(0, 5);
        due("WOKEN", x.count(5), 2);
        x.put(5, 0, 1);
        due("put() in a CERTIFICATE's place: none is GONE by it", x.count(6), 2);
        due("GONE by pass()", x.pass(2), 1);
        due("GONE", x.count(6), 3);
        x.set(1, 0);
        due("GONE by set()", x.count(6), 5);
        // What is overwritten by a copy is not GONE.
        LateCopies y = on("05");
        y.put(0, 0, 1);
        y.remove(0, 0, 2);
        y.put(1, 0, 1);
        y.exchange(0, 1);
        y.pass(300);
        due("GONE", y.count(6), 0);
        y.settle(7, false, 0);
        y.settle(7, true, 0);
        due("TRAFFIC stays as settle() is told", y.count(4), 2);
    }

    private static void countedOfLine() {
        sentence(19, "(4, 5, 6 of this LINE).");
        LateCopies x = on("05");
        x.set(0, 1);
        x.put(0, 0, 1);
        x.exchange(0, 1);
        x.put(0, 1, 1);
        x.remove(0, 1, 1);
        x.exchange(0, 1);
        x.remove(0, 0, 1);
        x.pass(2);
        x.exchange(0, 1);
        holds("TRAFFIC, WOKEN and GONE are above 0", x.count(4) > 0 && x.count(5) > 0 && x.count(6) > 0);
        write(x, "50");
        due("no LINE", x.line(), STATE);
        holds("they stay", x.count(4) > 0 && x.count(5) > 0 && x.count(6) > 0);
        read(x, "05");
        counts(x, 4, 0, 0, 0);
        due("LINES read, of all", x.count(11), 2);
        due("SHORT stays", x.count(7), 1);
        read(x, "05");
        due("LINES read, of all", x.count(11), 3);
    }

    private static void countOutside() {
        sentence(19, "OUTSIDE.");
        LateCopies x = new LateCopies();
        for (int n = 0; n < 2; n++) {
            for (int what : new int[] {-1, 12, 13, LEAST, MOST}) {
                due("count(" + what + ")", x.count(what), OUTSIDE);
            }
            due("count(0)", x.count(0), 0);
            due("count(11)", x.count(11), n);
            read(x, "05");
        }
    }

    /** The rule of digest() over numbers written out, by whole numbers without a bound, cut to 64 bits at the end. */
    private static long digestOf(int... numbers) {
        BigInteger h = BigInteger.valueOf(1741);
        for (int number : numbers) {
            h = h.multiply(BigInteger.valueOf(31)).add(BigInteger.valueOf(number));
        }
        return h.longValue();
    }

    private static void digestWraps() {
        sentence(20, "h is 1741, then for each of these numbers, in order, 31 times h, and it (as longs, wrapping):");
        due("a new object", new LateCopies().digest(), digestOf(0, 0, 0, 0, 0, 0, 0, 0, 0, 0, 0, 10, 40, 2, 5, 0));
        LateCopies x = new LateCopies();
        write(x, "~~~~~~");
        due("with letters", x.digest(),
            digestOf(0, 0, 0, 0, 126, 126, 126, 126, 126, 126, 6, 0, 0, 0, 0, 0, 0, 10, 40, 2, 5, 0));
        LateCopies y = on("05");
        due("a LINE", y.digest(), digestOf(
            0, -1, -1, -1, -1, 0, 0, 0, -1, -1, -1, -1, 0, 0, 0, -1, -1, -1, -1, 0, 0, 0, -1, -1, -1, -1, 0, 0,
            -1, -1, -1, 1, 1,
            0, -1, -1, -1, -1, 0, 0, 0, -1, -1, -1, -1, 0, 0, 0, -1, -1, -1, -1, 0, 0, 0, -1, -1, -1, -1, 0, 0,
            -1, -1, -1, 1, 1,
            0, 0, 0, 0,
            0, 0, 7, 0, 0, 7,
            0, 2, 0, 0, 0, 0, 0, 10, 40, 2, 5, 1));
        due("again", y.digest(), y.digest());
    }

    private static void digestOrder() {
        sentence(20, "of each SITE, of each KEY has() for 0 to 6, then, of that SITE, newest() for 0 to 2, alike() with each SITE by number; of each KEY risen();");
        LateCopies x = on("05");
        x.put(1, 2, 6);
        x.put(0, 2, 5);
        x.put(0, 3, 4);
        x.remove(0, 2, 1);
        x.off(1, true);
        due("of KEYS 2 and 3 at SITE 0, of KEY 2 at SITE 1", x.digest(), digestOf(
            0, -1, -1, -1, -1, 0, 0, 0, -1, -1, -1, -1, 0, 0, 2, -1, 4, 4, 1, 0, 2, 1, 4, 3, 3, -1, 0, 2,
            2, 3, 2, 1, 0,
            0, -1, -1, -1, -1, 0, 0, 0, -1, -1, -1, -1, 0, 0, 1, 6, 1, 1, -1, 0, 2, 0, -1, -1, -1, -1, 0, 0,
            2, 2, -1, 0, 1,
            0, 0, 2, 0,
            0, 0, 7, 0, 0, 7,
            0, 2, 4, 2, 0, 0, 0, 10, 40, 2, 5, 1));
    }

    private static void digestWithoutLine() {
        sentence(20, "if there is a LINE settle() by SEED 7 for false, then true, 0 to 2 each;");
        LateCopies x = on("05");
        x.put(0, 0, 1);
        int then = (int) seedAfter(7, 2);
        due("a VALUE to settle", x.digest(), digestOf(
            1, 1, 1, 1, -1, 0, 2, 0, -1, -1, -1, -1, 0, 0, 0, -1, -1, -1, -1, 0, 0, 0, -1, -1, -1, -1, 0, 0,
            0, 0, -1, 1, 0,
            0, -1, -1, -1, -1, 0, 0, 0, -1, -1, -1, -1, 0, 0, 0, -1, -1, -1, -1, 0, 0, 0, -1, -1, -1, -1, 0, 0,
            -1, -1, -1, 0, 1,
            0, 0, 0, 0,
            1, 3, then, 1, 2, then,
            0, 2, 1, 0, 0, 0, 0, 10, 40, 2, 5, 1));
        LateCopies y = new LateCopies();
        due("no LINE", y.digest(), digestByCalls(y, ""));
        y.set(0, 50);
        y.set(1, 0);
        due("no LINE, other limits", y.digest(), digestOf(0, 0, 0, 0, 0, 0, 0, 0, 0, 0, 0, 50, 0, 2, 5, 0));
    }

    private static void digestOfMuch() {
        sentence(20, "each letter of THE PAGE by its code; what count() tells for 0 to 11.");
        LateCopies x = new LateCopies();
        write(x, " ");
        due("one letter", x.digest(), digestByCalls(x, " "));
        write(x, "~");
        due("another letter", x.digest(), digestByCalls(x, "~"));
        write(x, "12");
        long one = x.digest();
        write(x, "21");
        holds("letters by their order", x.digest() != one && x.digest() == digestByCalls(x, "21"));
        write(x, "123456");
        x.blank();
        x.letter('z');
        due("letters of THE PAGE alone", x.digest(), digestByCalls(x, "z"));
        LateCopies y = on("012359");
        y.set(0, 2);
        y.put(5, 0, 1);
        y.put(4, 1, 9);
        y.exchange(0, 5);
        y.remove(0, 0, 3);
        y.exchange(0, 4);
        y.pass(3);
        y.exchange(0, 5);
        offOnly(y, 10);
        write(y, "5~ 5");
        due("digest() of much", y.digest(), digestByCalls(y, "5~ 5"));
    }
}
