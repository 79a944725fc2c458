/** Promise 12: RUMOUR of a SITE to another one, and HEAT. */
final class RumourBoundaries extends Boundaries {
    private RumourBoundaries() {
    }

    static void all() {
        hotAndNotDormant();
        copyIsHot();
        heatIsLess();
        sleeperIsWoken();
        heatAtFirst();
        heatByMeeting();
        hotAboveZero();
        rumourTells();
        rumourUnknown();
        rumourState();
    }

    private static void heats(LateCopies x, int key, int... want) {
        for (int site = 0; site < want.length; site++) {
            due("HEAT at " + site, x.has(site, key, 6), want[site]);
        }
    }

    private static void hotAndNotDormant() {
        sentence(12, "RUMOUR of a SITE to another one: of each KEY of which the first one's ITEM is HOT and not DORMANT, by number, TRAFFIC is 1 more;");
        LateCopies x = on("05");
        due("nothing to tell", x.rumour(0, 1), 0);
        due("TRAFFIC", x.count(4), 0);
        for (int key = 0; key < KEYS; key++) {
            x.put(0, key, 1);
        }
        due("all four", x.rumour(0, 1), 4);
        due("TRAFFIC", x.count(4), 4);
        x.rumour(0, 1);
        due("TRAFFIC, also as nothing comes", x.count(4), 8);
        x.put(0, 2, 1);
        x.rumour(0, 1);
        x.rumour(0, 1);
        due("TRAFFIC of four, then of KEY 2 alone", x.count(4), 13);
        LateCopies y = on("05");
        y.put(1, 0, 1);
        due("what the second one has is not told", y.rumour(0, 1), 0);
        nothing(y, 0, 0);
        due("TRAFFIC", y.count(4), 0);
        y.remove(1, 0, 1);
        y.pass(10);
        due("a CERTIFICATE at SHORT", y.rumour(1, 0), 1);
        y.pass(1);
        nothing(y, 0, 0);
        due("a DORMANT one, though HOT", y.rumour(1, 0), 0);
        due("TRAFFIC", y.count(4), 1);
        item(y, 1, 0, 2, NONE, 2, 2, 2, 1, 2);
        nothing(y, 0, 0);
        y.set(0, 11);
        due("awake by set()", y.rumour(1, 0), 1);
        due("TRAFFIC", y.count(4), 2);
    }

    private static void copyIsHot() {
        sentence(12, "if the other SITE has nothing, or an older ITEM, it gets a copy, and that is HOT;");
        LateCopies x = on("05");
        x.put(0, 0, 3);
        x.put(1, 1, 4);
        x.put(0, 1, 5);
        due("to nothing, and to an older one", x.rumour(0, 1), 2);
        value(x, 1, 0, 3, 1, 2);
        value(x, 1, 1, 5, 3, 2);
        heats(x, 0, 2, 2);
        heats(x, 1, 2, 2);
        x.remove(0, 0, 2);
        due("a CERTIFICATE", x.rumour(0, 1), 1);
        item(x, 1, 0, 2, NONE, 4, 4, 3, 0, 2);
        due("the copy is told on", x.rumour(1, 0), 0);
        due("its HEAT", x.has(1, 0, 6), 1);
        x.put(0, 0, 8);
        due("a VALUE that is NEWER than a CERTIFICATE", x.rumour(0, 1), 1);
        value(x, 1, 0, 8, 5, 2);
        // Of like STAMPS the lesser ACTIVATION is older.
        LateCopies y = on("055");
        y.set(0, 2);
        y.put(2, 0, 1);
        y.exchange(0, 2);
        y.remove(0, 0, 2);
        y.exchange(0, 1);
        y.pass(3);
        y.rumour(2, 1);
        item(y, 1, 0, 2, NONE, 2, 5, 3, 0, 2);
        item(y, 0, 0, 2, NONE, 2, 2, 3, 1, 2);
        due("to a DORMANT one of a like STAMP", y.rumour(1, 0), 1);
        item(y, 0, 0, 2, NONE, 2, 5, 3, 0, 2);
        due("WOKEN once", y.count(5), 1);
        LateCopies z = on("05");
        z.set(0, 2);
        z.put(0, 0, 1);
        z.remove(0, 0, 1);
        z.put(1, 0, 7);
        z.pass(2);
        due("DORMANT", z.has(0, 0, 5), 1);
        due("to a DORMANT one of a lesser STAMP", z.rumour(1, 0), 1);
        value(z, 0, 0, 7, 3, 2);
        due("WOKEN", z.count(5), 0);
    }

    private static void heatIsLess() {
        sentence(12, "else HEAT of the first one's is 1 less,");
        for (int interest = 1; interest <= 3; interest++) {
            LateCopies x = on("05");
            x.set(2, interest);
            x.put(0, 0, 3);
            x.exchange(0, 1);
            for (int left = interest - 1; left >= 0; left--) {
                due("the same one", x.rumour(0, 1), 0);
                heats(x, 0, left, 0);
            }
            due("HOT no more", x.rumour(0, 1), 0);
            heats(x, 0, 0, 0);
            due("TRAFFIC: MEETING, then as often as INTEREST says", x.count(4), 1 + interest);
        }
        LateCopies y = on("05");
        y.put(0, 0, 3);
        y.put(1, 0, 4);
        due("an older one is told", y.rumour(0, 1), 0);
        heats(y, 0, 1, 2);
        value(y, 0, 0, 3, 1, 1);
        value(y, 1, 0, 4, 2, 2);
        due("a NEWER one is told", y.rumour(1, 0), 1);
        heats(y, 0, 2, 2);
        y.put(0, 1, 1);
        y.rumour(0, 1);
        heats(y, 1, 2, 2);
        heats(y, 0, 1, 2);
    }

    /** SITE 0 has a DORMANT CERTIFICATE of KEY 0 (STAMP 2), SITE 1 the VALUE of STAMP 1 with HEAT 2; NOW is 6. */
    private static LateCopies sleeperAndValue() {
        LateCopies x = on("05");
        x.set(0, 3);
        x.put(1, 0, 1);
        x.exchange(0, 1);
        x.remove(0, 0, 1);
        x.pass(4);
        item(x, 0, 0, 2, NONE, 2, 2, 1, 1, 2);
        value(x, 1, 0, 1, 1, 2);
        return x;
    }

    private static void sleeperIsWoken() {
        sentence(12, "and if the other one's is DORMANT and of a greater STAMP, that is WOKEN.");
        LateCopies x = sleeperAndValue();
        x.set(2, 3);
        due("told to a DORMANT one", x.rumour(1, 0), 0);
        due("WOKEN", x.count(5), 1);
        item(x, 0, 0, 2, NONE, 2, 6, 1, 0, 3);
        value(x, 1, 0, 1, 1, 1);
        x.pass(1);
        due("told to one that is awake", x.rumour(1, 0), 0);
        due("WOKEN once", x.count(5), 1);
        item(x, 0, 0, 2, NONE, 2, 6, 1, 0, 3);
        value(x, 1, 0, 1, 1, 0);
        x.pass(3);
        due("DORMANT again", x.has(0, 0, 5), 1);
        due("not HOT: not told", x.rumour(1, 0), 0);
        due("WOKEN once", x.count(5), 1);
        x.set(0, 4);
        due("the CERTIFICATE is told", x.rumour(0, 1), 1);
        item(x, 1, 0, 2, NONE, 2, 6, 1, 0, 3);
        LateCopies y = sleeperAndValue();
        due("the DORMANT one tells nothing", y.rumour(0, 1), 0);
        due("WOKEN", y.count(5), 0);
        value(y, 1, 0, 1, 1, 2);
        LateCopies z = on("05");
        z.put(1, 0, 1);
        z.exchange(0, 1);
        z.remove(0, 0, 1);
        z.pass(10);
        due("at SHORT, not DORMANT", z.rumour(1, 0), 0);
        due("WOKEN", z.count(5), 0);
        due("ACTIVATION", z.has(0, 0, 3), 2);
        olderCertificateWakes();
    }

    /** An awake CERTIFICATE of STAMP 3 is told to a DORMANT one of STAMP 4. */
    private static void olderCertificateWakes() {
        LateCopies x = on("055");
        x.set(0, 2);
        x.put(0, 0, 1);
        x.exchange(0, 2);
        x.put(1, 0, 2);
        x.remove(0, 0, 1);
        x.remove(1, 0, 1);
        x.pass(3);
        x.exchange(0, 2);
        item(x, 0, 0, 2, NONE, 3, 7, 1, 0, 2);
        due("a CERTIFICATE of a lesser STAMP", x.rumour(0, 1), 0);
        due("WOKEN", x.count(5), 2);
        item(x, 0, 0, 2, NONE, 3, 7, 1, 0, 1);
        item(x, 1, 0, 2, NONE, 4, 7, 2, 0, 2);
    }

    private static void heatAtFirst() {
        sentence(12, "HEAT of an ITEM at a SITE: INTEREST as it is PUT, is a CERTIFICATE by REMOVING, is WOKEN (also by MEETING), comes by a RUMOUR;");
        for (int interest = 1; interest <= 3; interest++) {
            LateCopies x = on("05");
            x.set(2, interest);
            x.put(0, 0, 1);
            heats(x, 0, interest, 0);
            x.rumour(0, 1);
            heats(x, 0, interest, interest);
            x.rumour(0, 1);
            heats(x, 0, interest - 1, interest);
            x.remove(0, 0, 1);
            heats(x, 0, interest, interest);
            LateCopies y = sleeperAndValue();
            y.set(2, interest);
            y.exchange(1, 0);
            due("HEAT, WOKEN by MEETING", y.has(0, 0, 6), interest);
            due("HEAT of what came by it", y.has(1, 0, 6), 0);
            LateCopies z = sleeperAndValue();
            z.set(2, interest);
            z.rumour(1, 0);
            due("HEAT, WOKEN by a RUMOUR", z.has(0, 0, 6), interest);
        }
        LateCopies w = on("05");
        w.put(0, 0, 1);
        w.set(2, 3);
        due("INTEREST as it was then", w.has(0, 0, 6), 2);
        w.rumour(0, 1);
        due("INTEREST as it is now", w.has(1, 0, 6), 3);
        w.set(2, 1);
        heats(w, 0, 2, 3);
        w.put(0, 0, 2);
        heats(w, 0, 1, 3);
    }

    private static void heatByMeeting() {
        sentence(12, "0 as it comes by MEETING;");
        LateCopies x = on("05");
        x.put(0, 0, 1);
        x.exchange(0, 1);
        heats(x, 0, 2, 0);
        due("it is not told on", x.rumour(1, 0), 0);
        due("TRAFFIC", x.count(4), 1);
        x.put(1, 0, 2);
        heats(x, 0, 2, 2);
        x.exchange(0, 1);
        heats(x, 0, 0, 2);
        x.remove(1, 0, 1);
        x.exchange(0, 1);
        heats(x, 0, 0, 2);
        // What does not go keeps its HEAT.
        x.exchange(0, 1);
        heats(x, 0, 0, 2);
    }

    private static void hotAboveZero() {
        sentence(12, "HOT: HEAT is above 0.");
        LateCopies x = on("059");
        x.set(2, 1);
        x.put(0, 0, 1);
        due("HEAT 1 is HOT", x.rumour(0, 1), 1);
        heats(x, 0, 1, 1, 0);
        x.rumour(0, 1);
        heats(x, 0, 0, 1, 0);
        due("HEAT 0 is not HOT", x.rumour(0, 2), 0);
        nothing(x, 2, 0);
        heats(x, 0, 0, 1, 0);
        due("HEAT 1 is HOT", x.rumour(1, 2), 1);
        due("TRAFFIC", x.count(4), 3);
    }

    private static void rumourTells() {
        sentence(12, "RUMOUR of a to b: how many copies came.");
        LateCopies x = on("05");
        for (int key = 0; key < KEYS; key++) {
            x.put(key & 1, key, 1);
        }
        due("of 0 to 1", x.rumour(0, 1), 2);
        due("none comes back", x.has(0, 1, 0), 0);
        due("of 0 to 1 again", x.rumour(0, 1), 0);
        due("of 1 to 0", x.rumour(1, 0), 2);
        heats(x, 0, 1, 1);
        heats(x, 1, 2, 2);
        due("NOW stays", x.count(2), 4);
        due("ALIKE", x.alike(0, 1), 1);
    }

    private static void rumourUnknown() {
        sentence(12, "UNKNOWN: a, b (also the same one)");
        ExchangeBoundaries.pairUnknown(true);
    }

    private static void rumourState() {
        sentence(12, "STATE: one is OFF.");
        ExchangeBoundaries.pairState(true);
    }
}
