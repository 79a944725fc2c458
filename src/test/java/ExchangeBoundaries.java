/** Promise 11: KEYS that MEET, and EXCHANGE of two SITES. */
final class ExchangeBoundaries extends Boundaries {
    private ExchangeBoundaries() {
    }

    static void all() {
        newer();
        wokenByMeeting();
        notWoken();
        itemGoes();
        itemDoesNotGo();
        recentFirst();
        recentBounds();
        thenAllOthers();
        trafficOfFirst();
        trafficOfOthers();
        exchangeTells();
        exchangeUnknown();
        exchangeState();
    }

    /**
     * SITE 0 has a DORMANT CERTIFICATE of KEY 0 (STAMP 2, its only KEEPER), SITE 2 the VALUE of STAMP 1, SITE 1
     * nothing; NOW is 6, SHORT 3.
     */
    private static LateCopies sleeper() {
        LateCopies x = on("059");
        x.set(0, 3);
        x.put(0, 0, 1);
        x.exchange(0, 2);
        x.remove(0, 0, 1);
        x.pass(4);
        item(x, 0, 0, 2, NONE, 2, 2, 1, 1, 2);
        return x;
    }

    /** SITES 0 and 1 have DORMANT CERTIFICATES of KEY 0 (STAMPS 3 and 4), each its only KEEPER; NOW is 7, SHORT 2. */
    private static LateCopies sleepers() {
        LateCopies x = on("05");
        x.set(0, 2);
        x.put(0, 0, 1);
        x.put(1, 0, 2);
        x.remove(0, 0, 1);
        x.remove(1, 0, 1);
        x.pass(3);
        item(x, 0, 0, 2, NONE, 3, 3, 1, 1, 2);
        item(x, 1, 0, 2, NONE, 4, 4, 2, 1, 2);
        return x;
    }

    /**
     * A CERTIFICATE of KEY 0 (STAMP 2) that was WOKEN twice: at SITE 0 at 5, at SITE 1 at 6. Both are its KEEPERS;
     * NOW is 6, SHORT 2.
     */
    private static LateCopies wokenTwice() {
        LateCopies x = on("0599");
        x.set(0, 2);
        x.put(0, 0, 1);
        x.exchange(0, 2);
        x.exchange(0, 3);
        x.remove(0, 0, 2);
        x.exchange(0, 1);
        x.pass(3);
        x.exchange(0, 2);
        x.pass(1);
        x.exchange(1, 3);
        item(x, 0, 0, 2, NONE, 2, 5, 3, 0, 2);
        item(x, 1, 0, 2, NONE, 2, 6, 3, 0, 2);
        return x;
    }

    private static void newer() {
        sentence(11, "Of two ITEMS of a KEY that is NEWER that has the greater STAMP, of like ones the greater ACTIVATION.");
        for (int order = 0; order < 2; order++) {
            LateCopies x = on("05");
            x.put(0, 0, 9);
            x.put(1, 0, 3);
            due("STAMPS 1 and 2", x.exchange(order, 1 - order), 1);
            value(x, 0, 0, 3, 2, 0);
            value(x, 1, 0, 3, 2, 2);
            // A CERTIFICATE of STAMP 2 that was WOKEN at 8, and a VALUE of STAMP 7.
            LateCopies y = sleeper();
            y.put(1, 0, 7);
            y.pass(1);
            y.exchange(0, 2);
            item(y, 0, 0, 2, NONE, 2, 8, 1, 0, 2);
            due("the greater STAMP, of a lesser ACTIVATION", y.exchange(order, 1 - order), 1);
            value(y, 0, 0, 7, 7, 0);
            value(y, 1, 0, 7, 7, 2);
            LateCopies z = on("055");
            z.set(0, 2);
            z.put(0, 0, 1);
            z.exchange(0, 2);
            z.remove(0, 0, 2);
            z.exchange(0, 1);
            z.pass(2);
            z.set(0, 1);
            z.exchange(1, 2);
            z.set(0, 50);
            item(z, 0, 0, 2, NONE, 2, 2, 3, 0, 2);
            item(z, 1, 0, 2, NONE, 2, 4, 3, 0, 2);
            due("like STAMPS, ACTIVATIONS 2 and 4", z.exchange(order, 1 - order), 1);
            item(z, 0, 0, 2, NONE, 2, 4, 3, 0, 0);
            item(z, 1, 0, 2, NONE, 2, 4, 3, 0, 2);
            LateCopies w = wokenTwice();
            due("like STAMPS, ACTIVATIONS 5 and 6", w.exchange(order, 1 - order), 1);
            item(w, 0, 0, 2, NONE, 2, 6, 3, 0, 0);
            item(w, 1, 0, 2, NONE, 2, 6, 3, 0, 2);
        }
    }

    private static void wokenByMeeting() {
        sentence(11, "A KEY MEETS between two SITES: first, if one has a DORMANT CERTIFICATE and the other one an ITEM of a lesser STAMP, the CERTIFICATE is WOKEN:");
        for (int order = 0; order < 2; order++) {
            LateCopies x = sleeper();
            due("a VALUE of a STAMP lesser by 1", order == 0 ? x.exchange(0, 2) : x.exchange(2, 0), 1);
            due("WOKEN", x.count(5), 1);
            item(x, 0, 0, 2, NONE, 2, 6, 1, 0, 2);
            item(x, 2, 0, 2, NONE, 2, 6, 1, 0, 0);
            LateCopies y = sleepers();
            y.set(3, 0);
            y.put(0, 1, 1);
            due("a DORMANT CERTIFICATE of a lesser STAMP", y.exchange(order, 1 - order), 2);
            due("WOKEN, the greater STAMP alone", y.count(5), 1);
            item(y, 0, 0, 2, NONE, 4, 8, 2, 0, 0);
            item(y, 1, 0, 2, NONE, 4, 8, 2, 0, 2);
        }
        // An awake CERTIFICATE of STAMP 3, WOKEN by STAMP 1, wakes one of STAMP 4.
        LateCopies z = on("0559");
        z.set(0, 2);
        z.put(0, 0, 1);
        z.exchange(0, 2);
        z.put(1, 0, 2);
        z.remove(0, 0, 1);
        z.remove(1, 0, 1);
        z.pass(3);
        z.exchange(0, 2);
        item(z, 0, 0, 2, NONE, 3, 7, 1, 0, 2);
        z.pass(1);
        due("a CERTIFICATE of a lesser STAMP", z.exchange(0, 1), 1);
        due("WOKEN", z.count(5), 2);
        item(z, 0, 0, 2, NONE, 4, 8, 2, 0, 0);
        activationBecomesNow();
    }

    private static void activationBecomesNow() {
        sentence(11, "its ACTIVATION becomes NOW.");
        for (int late = 0; late <= 39; late += 13) {
            LateCopies x = sleeper();
            if (late > 0) {
                x.pass(late);
            }
            x.exchange(2, 0);
            item(x, 0, 0, 2, NONE, 2, 6 + late, 1, 0, 2);
            item(x, 2, 0, 2, NONE, 2, 6 + late, 1, 0, 0);
        }
        LateCopies x = sleeper();
        x.pass(39);
        due("its last moment", x.has(0, 0, 5), 1);
        due("pass(1): GONE", x.pass(1), 1);
        due("the old VALUE rises again", x.exchange(0, 2), 1);
        value(x, 0, 0, 1, 1, 0);
        due("WOKEN", x.count(5), 0);
    }

    private static void notWoken() {
        sentence(11, "an ITEM of a lesser STAMP");
        LateCopies x = sleeper();
        x.put(1, 3, 1);
        due("nothing there", x.exchange(0, 1), 1);
        item(x, 0, 0, 2, NONE, 2, 2, 1, 1, 2);
        nothing(x, 1, 0);
        // A VALUE of STAMP 3, greater by 1.
        LateCopies y = on("05");
        y.set(0, 2);
        y.put(0, 0, 1);
        y.remove(0, 0, 1);
        y.put(1, 0, 7);
        y.pass(2);
        due("DORMANT", y.has(0, 0, 5), 1);
        due("a greater STAMP", y.exchange(1, 0), 1);
        value(y, 0, 0, 7, 3, 0);
        due("WOKEN", y.count(5), 0);
        // The same CERTIFICATE, DORMANT at both.
        LateCopies z = on("05");
        z.set(0, 2);
        z.put(0, 0, 1);
        z.remove(0, 0, 2);
        z.exchange(0, 1);
        z.pass(3);
        z.set(3, 0);
        z.put(0, 1, 1);
        due("the same STAMP", z.exchange(0, 1), 1);
        item(z, 0, 0, 2, NONE, 2, 2, 3, 1, 2);
        item(z, 1, 0, 2, NONE, 2, 2, 3, 1, 0);
        due("WOKEN", z.count(5), 0);
        // A CERTIFICATE that is not DORMANT is not WOKEN.
        LateCopies w = on("05");
        w.put(0, 0, 1);
        w.exchange(0, 1);
        w.remove(0, 0, 1);
        w.pass(10);
        due("not DORMANT", w.exchange(0, 1), 1);
        item(w, 1, 0, 2, NONE, 2, 2, 1, 0, 0);
        due("WOKEN", w.count(5), 0);
        stampNotActivation();
    }

    /** A STAMP that is lesser than the ACTIVATION of a DORMANT one, but not than its STAMP, wakes nothing. */
    private static void stampNotActivation() {
        for (int order = 0; order < 2; order++) {
            LateCopies x = sleeper();
            x.put(1, 0, 7);
            x.pass(1);
            x.exchange(0, 2);
            x.pass(4);
            item(x, 0, 0, 2, NONE, 2, 8, 1, 1, 2);
            due("a VALUE of STAMP 7 to STAMP 2, ACTIVATION 8", x.exchange(order, 1 - order), 1);
            value(x, 0, 0, 7, 7, 0);
            due("WOKEN stays", x.count(5), 1);
            LateCopies y = wokenTwice();
            y.pass(3);
            y.set(3, 0);
            y.put(0, 1, 1);
            due("DORMANT ones of like STAMPS, ACTIVATIONS 5 and 6", y.exchange(order, 1 - order), 1);
            item(y, 0, 0, 2, NONE, 2, 5, 3, 1, 2);
            item(y, 1, 0, 2, NONE, 2, 6, 3, 1, 2);
            due("WOKEN stays", y.count(5), 2);
        }
    }

    private static void itemGoes() {
        sentence(11, "Then an ITEM of the one that is not DORMANT goes to the other SITE (a copy, there instead of what was there)");
        for (int order = 0; order < 2; order++) {
            LateCopies x = on("05");
            x.put(0, 0, 4);
            x.put(0, 1, 5);
            x.remove(0, 1, 2);
            x.put(1, 2, 6);
            x.put(1, 3, 7);
            x.put(0, 3, 8);
            due("both ways", x.exchange(order, 1 - order), 4);
            value(x, 1, 0, 4, 1, 0);
            item(x, 1, 1, 2, NONE, 3, 3, 3, 0, 0);
            value(x, 0, 2, 6, 4, 0);
            value(x, 1, 3, 8, 6, 0);
            value(x, 0, 0, 4, 1, 2);
            item(x, 0, 1, 2, NONE, 3, 3, 3, 0, 2);
            value(x, 1, 2, 6, 4, 2);
            value(x, 0, 3, 8, 6, 2);
            // A copy is its own: what becomes of one of them later is not seen in the other.
            x.put(0, 0, 9);
            value(x, 1, 0, 4, 1, 0);
            x.rumour(0, 1);
            x.rumour(0, 1);
            due("HEAT of one", x.has(0, 0, 6), 1);
            due("HEAT of the other", x.has(1, 0, 6), 2);
        }
        LateCopies y = sleeper();
        due("a DORMANT one does not go", y.exchange(0, 1), 0);
        nothing(y, 1, 0);
        y.put(0, 3, 1);
        due("nor as other KEYS do", y.exchange(0, 1), 1);
        nothing(y, 1, 0);
    }

    private static void itemDoesNotGo() {
        sentence(11, "if that has nothing, or if it is NEWER than what that has.");
        LateCopies x = on("05");
        due("nothing at both", x.exchange(0, 1), 0);
        nothing(x, 0, 0);
        x.put(0, 0, 4);
        due("to nothing", x.exchange(1, 0), 1);
        due("the same one", x.exchange(1, 0), 0);
        due("the same one", x.exchange(0, 1), 0);
        value(x, 0, 0, 4, 1, 2);
        value(x, 1, 0, 4, 1, 0);
        x.put(0, 0, 4);
        due("an equal VALUE of another STAMP", x.exchange(0, 1), 1);
        value(x, 1, 0, 4, 2, 0);
        x.remove(0, 0, 1);
        due("a CERTIFICATE, NEWER than a VALUE", x.exchange(0, 1), 1);
        item(x, 1, 0, 2, NONE, 3, 3, 1, 0, 0);
        due("the same CERTIFICATE", x.exchange(0, 1), 0);
        x.put(1, 0, 2);
        due("a VALUE, NEWER than a CERTIFICATE", x.exchange(0, 1), 1);
        value(x, 0, 0, 2, 4, 0);
    }

    /** KEY 1 was PUT at 0 so long ago, and is at both; then TRAFFIC of one more EXCHANGE. */
    private static int trafficAtAge(int recent, int age) {
        LateCopies x = on("05");
        x.set(3, recent);
        x.put(0, 1, 1);
        x.exchange(0, 1);
        if (age > 0) {
            x.pass(age);
        }
        int before = x.count(4);
        x.exchange(1, 0);
        return x.count(4) - before;
    }

    private static void recentFirst() {
        sentence(11, "EXCHANGE of two SITES: first all KEYS MEET of which one of them has a RECENT ITEM");
        for (int order = 0; order < 2; order++) {
            LateCopies x = on("05");
            x.put(order, 0, 1);
            x.exchange(0, 1);
            x.pass(10);
            x.put(order, 1, 2);
            int before = x.count(4);
            due("one of them has it", x.exchange(0, 1), 1);
            due("TRAFFIC of KEY 1 alone", x.count(4) - before, 1);
            x.put(order, 1, 3);
            before = x.count(4);
            due("RECENT at both", x.exchange(1, 0), 1);
            due("TRAFFIC of KEY 1, both", x.count(4) - before, 2);
            x.pass(10);
            x.put(order, 1, 4);
            before = x.count(4);
            due("an old one at the other", x.exchange(1, 0), 1);
            due("TRAFFIC of KEY 1, both", x.count(4) - before, 2);
        }
        LateCopies y = on("05");
        for (int key = 0; key < KEYS; key++) {
            y.put(key & 1, key, key);
        }
        due("all four", y.exchange(0, 1), 4);
        due("TRAFFIC", y.count(4), 4);
        LateCopies z = on("05");
        z.set(3, 50);
        z.put(0, 0, 1);
        z.remove(0, 0, 2);
        z.exchange(0, 1);
        z.pass(10);
        z.exchange(0, 1);
        due("a CERTIFICATE that is RECENT", z.count(4), 3);
    }

    private static void recentBounds() {
        sentence(11, "(not DORMANT; NOW less its ACTIVATION is less than RECENT)");
        for (int recent : new int[] {1, 2, 5, 49, 50}) {
            due("TRAFFIC below RECENT " + recent, trafficAtAge(recent, recent - 1), 2);
            due("TRAFFIC at RECENT " + recent, trafficAtAge(recent, recent), 0);
            due("TRAFFIC above RECENT " + recent, trafficAtAge(recent, recent + 1), 0);
        }
        due("TRAFFIC, RECENT 0", trafficAtAge(0, 0), 0);
        due("TRAFFIC, RECENT 0, later", trafficAtAge(0, 1), 0);
        LateCopies x = sleepers();
        x.set(3, 50);
        due("DORMANT ones are not RECENT", x.exchange(0, 1), 0);
        counts(x, 4, 0, 0);
        item(x, 0, 0, 2, NONE, 3, 3, 1, 1, 2);
        // By ACTIVATION, not by STAMP: a CERTIFICATE that was WOKEN is RECENT again.
        LateCopies y = sleeper();
        y.set(0, 50);
        y.set(3, 4);
        y.exchange(0, 1);
        due("STAMP 2, not WOKEN: not RECENT, yet not ALIKE", y.count(4), 2);
        y.exchange(0, 1);
        due("ALIKE, not RECENT", y.count(4), 2);
        y.set(0, 3);
        y.exchange(0, 2);
        due("WOKEN", y.count(5), 1);
        due("TRAFFIC of the VALUE", y.count(4), 3);
        y.pass(3);
        y.exchange(0, 2);
        due("STAMP 2, WOKEN 3 ago: RECENT", y.count(4), 5);
        y.set(0, 50);
        y.pass(1);
        y.exchange(0, 2);
        due("WOKEN 4 ago: not RECENT", y.count(4), 5);
    }

    private static void thenAllOthers() {
        sentence(11, "then, if they are not ALIKE, all others.");
        LateCopies x = sleepers();
        x.put(0, 1, 1);
        due("ALIKE by what MET first", x.exchange(0, 1), 1);
        due("KEY 0 did not MEET", x.count(5), 0);
        x.put(0, 2, 1);
        x.pass(5);
        x.put(0, 1, 1);
        due("not ALIKE, for KEY 2: all others", x.exchange(0, 1), 3);
        due("KEY 0 MET", x.count(5), 1);
        LateCopies y = on("05");
        for (int key = 0; key < KEYS; key++) {
            y.put(0, key, 1);
        }
        y.pass(50);
        due("none is RECENT, all are others", y.exchange(0, 1), 4);
        due("TRAFFIC", y.count(4), 4);
        due("ALIKE: none MEETS", y.exchange(0, 1), 0);
        due("TRAFFIC stays", y.count(4), 4);
    }

    private static void trafficOfFirst() {
        sentence(11, "TRAFFIC is more by 1 for each ITEM at either of both that is not DORMANT, of KEYS that are to MEET first, as it is ahead of these;");
        LateCopies x = on("059");
        x.put(0, 0, 1);
        due("of nothing at SITE 2", x.exchange(1, 2), 0);
        due("TRAFFIC", x.count(4), 0);
        x.exchange(0, 1);
        due("one ITEM, ahead of its copy", x.count(4), 1);
        x.exchange(0, 1);
        due("one at either", x.count(4), 3);
        x.remove(0, 0, 1);
        x.exchange(0, 1);
        due("CERTIFICATES, too", x.count(4), 5);
        LateCopies y = sleeper();
        y.set(3, 50);
        int before = y.count(4);
        y.exchange(0, 2);
        due("a VALUE, not the DORMANT one that it wakes", y.count(4) - before, 1);
        y.exchange(2, 0);
        due("then both", y.count(4) - before, 3);
        due("a refused EXCHANGE", y.exchange(1, 1), UNKNOWN);
        due("TRAFFIC stays", y.count(4) - before, 3);
    }

    private static void trafficOfOthers() {
        sentence(11, "then likewise of the others (if they MEET), as it is ahead of them.");
        LateCopies x = on("05");
        x.put(0, 0, 1);
        x.put(0, 1, 1);
        x.exchange(0, 1);
        x.put(0, 2, 1);
        x.put(1, 2, 2);
        x.pass(10);
        x.put(0, 3, 1);
        int before = x.count(4);
        due("KEY 3 first, then KEYS 0 to 2", x.exchange(0, 1), 2);
        due("TRAFFIC: 1, then 2 of each", x.count(4) - before, 7);
        x.put(0, 3, 1);
        before = x.count(4);
        due("KEY 3 alone", x.exchange(0, 1), 1);
        due("TRAFFIC: others do not MEET", x.count(4) - before, 2);
        LateCopies y = sleeper();
        y.set(3, 0);
        before = y.count(4);
        y.exchange(2, 0);
        due("not of the DORMANT one that MEETS as others do", y.count(4) - before, 1);
    }

    private static void exchangeTells() {
        sentence(11, "EXCHANGE: at how many SITES and KEYS a copy came.");
        LateCopies x = on("05");
        due("none", x.exchange(0, 1), 0);
        for (int key = 0; key < KEYS; key++) {
            x.put(0, key, 1);
            due("one of KEY " + key, x.exchange(0, 1), 1);
        }
        x.pass(20);
        for (int key = 0; key < KEYS; key++) {
            x.put(key & 1, key, 2);
        }
        due("two each way", x.exchange(1, 0), 4);
        x.put(0, 0, 1);
        x.pass(10);
        x.put(1, 1, 1);
        due("first ones and others together", x.exchange(0, 1), 2);
        due("NOW stays", x.count(2), 40);
    }

    private static void exchangeUnknown() {
        sentence(11, "UNKNOWN: a, b (also the same one)");
        pairUnknown(false);
    }

    private static void exchangeState() {
        sentence(11, "STATE: one is OFF.");
        pairState(false);
    }

    private static int call(LateCopies x, boolean rumour, int a, int b) {
        return rumour ? x.rumour(a, b) : x.exchange(a, b);
    }

    static void pairUnknown(boolean rumour) {
        LateCopies x = on("059");
        x.put(0, 0, 1);
        for (int wrong : new int[] {-1, 3, 6, LEAST, MOST}) {
            due("(" + wrong + ", 0)", call(x, rumour, wrong, 0), UNKNOWN);
            due("(0, " + wrong + ")", call(x, rumour, 0, wrong), UNKNOWN);
            due("(" + wrong + ", " + wrong + ")", call(x, rumour, wrong, wrong), UNKNOWN);
        }
        for (int same = 0; same < 3; same++) {
            due("(" + same + ", " + same + ")", call(x, rumour, same, same), UNKNOWN);
        }
        value(x, 0, 0, 1, 1, 2);
        due("TRAFFIC", x.count(4), 0);
        due("(0, 2)", call(x, rumour, 0, 2), 1);
    }

    static void pairState(boolean rumour) {
        LateCopies x = on("059");
        x.put(0, 0, 1);
        x.off(0, true);
        due("the first one", call(x, rumour, 0, 1), STATE);
        due("the second one", call(x, rumour, 1, 0), STATE);
        due("neither", call(x, rumour, 1, 2), 0);
        x.off(1, true);
        due("both", call(x, rumour, 0, 1), STATE);
        due("the same one, OFF: UNKNOWN comes first", call(x, rumour, 0, 0), UNKNOWN);
        due("no SITE and one that is OFF: UNKNOWN comes first", call(x, rumour, 0, 3), UNKNOWN);
        due("no SITE and one that is OFF: UNKNOWN comes first", call(x, rumour, -1, 0), UNKNOWN);
        value(x, 0, 0, 1, 1, 2);
        nothing(x, 1, 0);
        nothing(x, 2, 0);
        due("TRAFFIC", x.count(4), 0);
        x.off(0, false);
        x.off(1, false);
        x.off(2, true);
        due("back, another one is OFF", call(x, rumour, 0, 1), 1);
    }
}
