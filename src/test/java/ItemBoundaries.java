/** Promises 7, 8 and 10, and what ITEMS are: VALUES that are put, CERTIFICATES with KEEPERS, SITES that are OFF. */
final class ItemBoundaries extends Boundaries {
    private ItemBoundaries() {
    }

    static void all() {
        keysInPut();
        nothingOrAnItem();
        stampAndActivation();
        keepersAreSites();
        valueIsPut();
        putAnswers();
        putUnknown();
        putOutside();
        putOff();
        putFull();
        valueIsRemoved();
        keepersNearest();
        keepersInAll();
        removeAnswers();
        removeUnknown();
        removeOutside();
        removeState();
        removeFull();
        offTells();
        offUnknown();
    }

    private static void keysInPut() {
        sentence(7, "There are KEYS 0 to 3.");
        LateCopies x = on("05");
        for (int key = 0; key <= 3; key++) {
            due("put(1, " + key + ", 5)", x.put(1, key, 5), key + 1);
            value(x, 1, key, 5, key + 1, 2);
            nothing(x, 0, key);
            due("risen(" + key + ")", x.risen(key), 0);
        }
        for (int key : new int[] {-1, 4, 5, -4, LEAST, MOST}) {
            due("put(1, " + key + ", 5)", x.put(1, key, 5), UNKNOWN);
            due("remove(1, " + key + ", 1)", x.remove(1, key, 1), UNKNOWN);
            due("has(1, " + key + ", 0)", x.has(1, key, 0), UNKNOWN);
            due("risen(" + key + ")", x.risen(key), UNKNOWN);
        }
        for (int key = 0; key <= 3; key++) {
            due("remove(1, " + key + ", 1)", x.remove(1, key, 1), key + 5);
        }
    }

    private static void nothingOrAnItem() {
        sentence(7, "A SITE has of each KEY nothing, or an ITEM: a VALUE (0 to 9) or a CERTIFICATE.");
        LateCopies x = on("05");
        for (int v = 0; v <= 9; v++) {
            nothing(x, 0, 2);
            x.put(1, 2, v);
            due("sort", x.has(1, 2, 0), 1);
            due("VALUE", x.has(1, 2, 1), v);
            x.remove(1, 2, 1);
            due("sort", x.has(1, 2, 0), 2);
            due("no VALUE", x.has(1, 2, 1), NONE);
        }
    }

    private static void stampAndActivation() {
        sentence(7, "Each has a STAMP and an ACTIVATION (of a VALUE the same number)");
        LateCopies x = on("05");
        x.put(0, 0, 7);
        x.pass(300);
        due("STAMP, however old", x.has(0, 0, 2), 1);
        due("ACTIVATION, however old", x.has(0, 0, 3), 1);
        x.exchange(0, 1);
        due("STAMP of a copy", x.has(1, 0, 2), 1);
        due("ACTIVATION of a copy", x.has(1, 0, 3), 1);
        x.put(0, 1, 7);
        x.rumour(0, 1);
        due("STAMP of a copy by a RUMOUR", x.has(1, 1, 2), 302);
        due("ACTIVATION of a copy by a RUMOUR", x.has(1, 1, 3), 302);
        x.remove(0, 0, 1);
        due("STAMP of a CERTIFICATE", x.has(0, 0, 2), 303);
        due("ACTIVATION of a CERTIFICATE", x.has(0, 0, 3), 303);
    }

    private static void keepersAreSites() {
        sentence(8, "a CERTIFICATE has KEEPERS (SITES).");
        LateCopies x = on("000000");
        x.put(5, 0, 7);
        due("KEEPERS of a VALUE", x.has(5, 0, 4), NONE);
        x.remove(5, 0, 3);
        due("KEEPERS", x.has(5, 0, 4), 35);
        x.exchange(5, 3);
        due("KEEPERS of a copy", x.has(3, 0, 4), 35);
        x.rumour(5, 2);
        due("KEEPERS of a copy by a RUMOUR", x.has(2, 0, 4), 35);
        due("KEEPERS of nothing", x.has(4, 0, 4), NONE);
        x.put(3, 0, 7);
        due("KEEPERS of a VALUE in its place", x.has(3, 0, 4), NONE);
    }

    private static void valueIsPut() {
        sentence(7, "A VALUE is PUT at a SITE: NOW is 1 more; it is there (what was there is gone) with STAMP NOW.");
        LateCopies x = on("05");
        x.set(0, 5);
        due("on nothing", x.put(0, 0, 3), 1);
        due("NOW", x.count(2), 1);
        value(x, 0, 0, 3, 1, 2);
        x.pass(8);
        due("on a VALUE", x.put(0, 0, 3), 10);
        value(x, 0, 0, 3, 10, 2);
        x.remove(0, 0, 2);
        x.exchange(0, 1);
        due("on a CERTIFICATE", x.put(0, 0, 4), 12);
        value(x, 0, 0, 4, 12, 2);
        x.pass(5);
        item(x, 1, 0, 2, NONE, 11, 11, 3, 1, 0);
        due("on a DORMANT one", x.put(1, 0, 6), 18);
        value(x, 1, 0, 6, 18, 2);
        value(x, 0, 0, 4, 12, 2);
        due("NOW", x.count(2), 18);
        counts(x, 4, 1, 0, 0);
        nothing(x, 1, 1);
        LateCopies y = on("05");
        y.put(0, 0, 1);
        y.remove(0, 0, 1);
        y.exchange(0, 1);
        y.pass(10);
        due("put() by which a CERTIFICATE ends", y.put(0, 3, 1), 13);
        nothing(y, 1, 0);
        due("GONE by NOW of put()", y.count(6), 1);
    }

    private static void putAnswers() {
        sentence(7, "A VALUE is PUT: its STAMP.");
        LateCopies x = on("000000");
        for (int site = 0; site < 6; site++) {
            due("put(" + site + ", 0, 0)", x.put(site, 0, 0), 2 * site + 1);
            due("put(" + site + ", 3, 9)", x.put(site, 3, 9), 2 * site + 2);
        }
        for (int site = 0; site < 6; site++) {
            value(x, site, 0, 0, 2 * site + 1, 2);
            value(x, site, 3, 9, 2 * site + 2, 2);
        }
    }

    private static void putUnknown() {
        sentence(7, "UNKNOWN: site, key");
        LateCopies x = on("059");
        for (int wrong : new int[] {-1, LEAST, MOST}) {
            due("put(" + wrong + ", 0, 0)", x.put(wrong, 0, 0), UNKNOWN);
            due("put(0, " + wrong + ", 0)", x.put(0, wrong, 0), UNKNOWN);
        }
        due("put(3, 0, 0)", x.put(3, 0, 0), UNKNOWN);
        due("put(0, 4, 0)", x.put(0, 4, 0), UNKNOWN);
        due("put(2, 3, 0)", x.put(2, 3, 0), 1);
        due("put(0, 0, 0)", x.put(0, 0, 0), 2);
    }

    private static void putOutside() {
        sentence(7, "OUTSIDE: v (0 to 9)");
        LateCopies x = on("05");
        for (int wrong : new int[] {-1, 10, LEAST, MOST}) {
            due("put(0, 0, " + wrong + ")", x.put(0, 0, wrong), OUTSIDE);
            nothing(x, 0, 0);
            due("NOW stays", x.count(2), 0);
        }
        due("put(0, 0, 0)", x.put(0, 0, 0), 1);
        due("put(0, 0, 9)", x.put(0, 0, 9), 2);
        due("put(0, 0, 10)", x.put(0, 0, 10), OUTSIDE);
        value(x, 0, 0, 9, 2, 2);
    }

    private static void putOff() {
        sentence(7, "STATE: the SITE is OFF");
        LateCopies x = on("000000");
        x.put(5, 1, 1);
        x.off(5, true);
        due("put(5, 1, 2)", x.put(5, 1, 2), STATE);
        value(x, 5, 1, 1, 1, 2);
        due("NOW stays", x.count(2), 1);
        due("put(4, 1, 2)", x.put(4, 1, 2), 2);
        x.off(0, true);
        due("put(0, 1, 2)", x.put(0, 1, 2), STATE);
        x.off(5, false);
        due("put(5, 1, 2)", x.put(5, 1, 2), 3);
        offOnly(x, 63);
        for (int site = 0; site < 6; site++) {
            due("put(" + site + ", 0, 0), all are OFF", x.put(site, 0, 0), STATE);
        }
    }

    private static void putFull() {
        sentence(7, "FULL: NOW would be above 9999.");
        LateCopies x = on("05");
        x.put(0, 0, 1);
        passTo(x, 9997);
        due("put at 9997", x.put(0, 0, 2), 9998);
        due("put at 9998", x.put(0, 0, 3), 9999);
        due("put at 9999", x.put(0, 0, 4), FULL);
        due("put at 9999, elsewhere", x.put(1, 3, 4), FULL);
        value(x, 0, 0, 3, 9999, 2);
        nothing(x, 1, 3);
        due("NOW", x.count(2), 9999);
    }

    private static void valueIsRemoved() {
        sentence(8, "A VALUE is REMOVED at a SITE: NOW is 1 more; a CERTIFICATE is there in its stead, with STAMP and ACTIVATION NOW");
        LateCopies x = on("05");
        x.put(1, 3, 0);
        x.pass(7);
        due("remove(1, 3, 1)", x.remove(1, 3, 1), 9);
        due("NOW", x.count(2), 9);
        item(x, 1, 3, 2, NONE, 9, 9, 2, 0, 2);
        nothing(x, 0, 3);
        nothing(x, 1, 2);
        counts(x, 4, 0, 0, 0);
        x.put(0, 0, 1);
        due("remove() at once", x.remove(0, 0, 1), 11);
        x.put(0, 1, 1);
        x.exchange(0, 1);
        x.pass(7);
        due("NOW", x.count(2), 19);
        due("CERTIFICATE of KEY 3, a copy", x.has(0, 3, 0), 2);
        due("remove() of a copy, by which that one ends", x.remove(1, 1, 1), 20);
        due("GONE by NOW of remove()", x.count(6), 1);
        nothing(x, 0, 3);
        item(x, 1, 1, 2, NONE, 20, 20, 2, 0, 2);
        value(x, 0, 1, 1, 12, 2);
    }

    private static void keepersNearest() {
        sentence(8, "its KEEPERS are that SITE and the NEAREST others (by POSITIONS, of like ones the least number; OFF ones, too)");
        // Of SITES as near on both sides, and of SITES at one place, the least number comes first.
        keepersOf("246", 1, 0, 2, 3, 7);
        keepersOf("0246", 1, 0, 2, 3, 7);
        keepersOf("0246", 2, 0, 4, 6, 14);
        keepersOf("245", 1, 0, 2, 6, 7);
        keepersOf("149", 1, 0, 2, 3, 7);
        keepersOf("0459", 3, 0, 8, 12, 14);
        keepersOf("0459", 0, 0, 1, 3, 7);
        keepersOf("000000", 0, 0, 1, 3, 7);
        keepersOf("000000", 2, 0, 4, 5, 7);
        keepersOf("000000", 5, 0, 32, 33, 35);
        keepersOf("113377", 3, 0, 8, 12, 13);
        keepersOf("113377", 2, 0, 4, 12, 13);
        keepersOf("012345", 5, 0, 32, 48, 56);
        keepersOf("099999", 0, 0, 1, 3, 7);
        keepersOf("099999", 4, 0, 16, 18, 22);
        keepersOf("035689", 2, 0, 4, 12, 14);
        // OFF ones are KEEPERS as others are.
        keepersOf("246", 1, 5, 2, 3, 7);
        keepersOf("012345", 3, 4, 8, 12, 28);
        keepersOf("012345", 3, 55, 8, 12, 28);
    }

    private static void keepersOf(String text, int site, int offBits, int one, int two, int three) {
        int[] want = {one, two, three};
        for (int keepers = 1; keepers <= 3; keepers++) {
            LateCopies x = on(text);
            x.put(site, 0, 1);
            offOnly(x, offBits);
            x.remove(site, 0, keepers);
            due("KEEPERS of remove(" + site + ", 0, " + keepers + ") on " + text, x.has(site, 0, 4), want[keepers - 1]);
        }
    }

    private static void keepersInAll() {
        sentence(8, "so many in all as told (all, if there are not so many).");
        keepersOf("05", 0, 0, 1, 3, 3);
        keepersOf("05", 1, 0, 2, 3, 3);
        keepersOf("99", 1, 0, 2, 3, 3);
        keepersOf("05", 0, 2, 1, 3, 3);
        keepersOf("059", 0, 0, 1, 3, 7);
        keepersOf("059", 2, 3, 4, 6, 7);
        for (int keepers = 1; keepers <= 3; keepers++) {
            LateCopies x = on("012345");
            x.put(0, 0, 1);
            x.remove(0, 0, keepers);
            due("how many KEEPERS", Integer.bitCount(x.has(0, 0, 4)), keepers);
        }
    }

    private static void removeAnswers() {
        sentence(8, "The VALUE there is REMOVED: the STAMP of its CERTIFICATE.");
        LateCopies x = on("05");
        x.put(0, 2, 4);
        due("remove(0, 2, 3)", x.remove(0, 2, 3), 2);
        due("STAMP", x.has(0, 2, 2), 2);
        x.put(0, 2, 4);
        x.pass(300);
        due("remove(0, 2, 1)", x.remove(0, 2, 1), 304);
        due("STAMP", x.has(0, 2, 2), 304);
    }

    private static void removeUnknown() {
        sentence(8, "UNKNOWN: site, key");
        LateCopies x = on("059");
        x.put(2, 3, 1);
        x.put(0, 0, 1);
        for (int wrong : new int[] {-1, LEAST, MOST}) {
            due("remove(" + wrong + ", 0, 1)", x.remove(wrong, 0, 1), UNKNOWN);
            due("remove(0, " + wrong + ", 1)", x.remove(0, wrong, 1), UNKNOWN);
        }
        due("remove(3, 3, 1)", x.remove(3, 3, 1), UNKNOWN);
        due("remove(2, 4, 1)", x.remove(2, 4, 1), UNKNOWN);
        due("NOW stays", x.count(2), 2);
        due("remove(2, 3, 1)", x.remove(2, 3, 1), 3);
        due("remove(0, 0, 1)", x.remove(0, 0, 1), 4);
    }

    private static void removeOutside() {
        sentence(8, "OUTSIDE: keepers (1 to 3)");
        LateCopies x = on("0123");
        x.put(0, 0, 1);
        for (int wrong : new int[] {0, 4, -1, LEAST, MOST}) {
            due("remove(0, 0, " + wrong + ")", x.remove(0, 0, wrong), OUTSIDE);
            value(x, 0, 0, 1, 1, 2);
        }
        due("NOW stays", x.count(2), 1);
        due("remove(0, 0, 1)", x.remove(0, 0, 1), 2);
        x.put(0, 0, 1);
        due("remove(0, 0, 3)", x.remove(0, 0, 3), 4);
        LateCopies y = on("05");
        y.put(0, 0, 1);
        due("3 of 2 SITES are not too many", y.remove(0, 0, 3), 2);
    }

    private static void removeState() {
        sentence(8, "STATE: the SITE is OFF, or there is no VALUE");
        LateCopies x = on("05");
        due("nothing there", x.remove(0, 0, 1), STATE);
        x.put(0, 0, 1);
        due("a VALUE of another SITE", x.remove(1, 0, 1), STATE);
        due("a VALUE of another KEY", x.remove(0, 1, 1), STATE);
        x.off(0, true);
        due("OFF", x.remove(0, 0, 1), STATE);
        value(x, 0, 0, 1, 1, 2);
        x.off(0, false);
        x.off(1, true);
        due("the other one is OFF", x.remove(0, 0, 2), 2);
        due("a CERTIFICATE", x.remove(0, 0, 1), STATE);
        item(x, 0, 0, 2, NONE, 2, 2, 3, 0, 2);
        x.pass(11);
        due("a DORMANT one", x.remove(0, 0, 1), STATE);
        x.pass(40);
        nothing(x, 0, 0);
        due("one that is GONE", x.remove(0, 0, 1), STATE);
        due("NOW", x.count(2), 53);
    }

    private static void removeFull() {
        sentence(8, "FULL: NOW would be above 9999.");
        LateCopies x = on("05");
        x.put(0, 0, 1);
        x.put(0, 1, 2);
        x.put(1, 0, 3);
        passTo(x, 9997);
        due("remove at 9997", x.remove(0, 0, 1), 9998);
        due("remove at 9998", x.remove(1, 0, 1), 9999);
        due("remove at 9999", x.remove(0, 1, 1), FULL);
        value(x, 0, 1, 2, 2, 2);
        due("risen(1)", x.risen(1), 0);
        due("NOW", x.count(2), 9999);
    }

    private static void offTells() {
        sentence(10, "A SITE is OFF, or not: whether it was (1, 0).");
        LateCopies x = on("000000");
        for (int site = 0; site < 6; site++) {
            due("off(" + site + ", false)", x.off(site, false), 0);
            due("off(" + site + ", true)", x.off(site, true), 0);
            due("off(" + site + ", true) again", x.off(site, true), 1);
            due("OFF", x.count(3), (2 << site) - 1);
        }
        for (int site = 0; site < 6; site++) {
            due("off(" + site + ", false)", x.off(site, false), 1);
            due("off(" + site + ", false) again", x.off(site, false), 0);
            due("OFF", x.count(3), 63 & -2 << site);
        }
        due("NOW stays", x.count(2), 0);
        LateCopies y = on("05");
        y.put(1, 0, 4);
        y.off(1, true);
        value(y, 1, 0, 4, 1, 2);
        y.put(0, 0, 5);
        y.off(1, false);
        value(y, 1, 0, 4, 1, 2);
        due("it comes back with its old copy", y.exchange(0, 1), 1);
        value(y, 1, 0, 5, 2, 0);
    }

    private static void offUnknown() {
        sentence(10, "UNKNOWN.");
        LateCopies x = on("05");
        for (int wrong : new int[] {-1, 2, 6, 31, 32, 33, -32, LEAST, MOST}) {
            due("off(" + wrong + ", true)", x.off(wrong, true), UNKNOWN);
            due("off(" + wrong + ", false)", x.off(wrong, false), UNKNOWN);
            due("OFF", x.count(3), 0);
        }
        LateCopies y = on("000000");
        due("off(6, true)", y.off(6, true), UNKNOWN);
        due("off(5, true)", y.off(5, true), 0);
    }
}
