/** Promise 18: SETTLING. */
final class SettleBoundaries extends Boundaries {
    private SettleBoundaries() {
    }

    static void all() {
        asItWouldBe();
        allAlike();
        fortyAtMost();
        aboveLatest();
        eachInTurn();
        endsBehindARound();
        settleTells();
        settleOutside();
        settleState();
    }

    private static void asItWouldBe() {
        sentence(18, "SETTLING by a SEED, as it would be:");
        LateCopies x = busy("0159");
        x.off(2, true);
        write(x, "7x");
        long before = x.digest();
        due("digest()", before, digestByCalls(x, "7x"));
        for (int seed = 0; seed < 30; seed++) {
            x.settle(seed, seed % 2 == 0, seed % 3);
            due("nothing changes", x.digest(), before);
        }
        due("digest()", x.digest(), digestByCalls(x, "7x"));
        due("the latest CERTIFICATE of KEY 2 stays, too", x.risen(2), 8);
    }

    private static void allAlike() {
        sentence(18, "if all SITES that are not OFF are ALIKE, 0 ROUNDS;");
        for (int way = 0; way < 2; way++) {
            LateCopies x = on("059");
            outcome(x, 7, way == 1, 0, 0, 7);
            outcome(x, 0, way == 1, 0, 0, 0);
            outcome(x, MOST, way == 1, 0, 0, MOST);
            x.put(0, 0, 1);
            x.off(0, true);
            outcome(x, 7, way == 1, 0, 0, 7);
            x.off(1, true);
            outcome(x, 7, way == 1, 0, 0, 7);
            x.off(2, true);
            outcome(x, 7, way == 1, 0, 0, 7);
            x.off(0, false);
            outcome(x, 7, way == 1, 0, 0, 7);
            x.off(2, false);
            due("0 and 2 are not ALIKE", x.settle(7, way == 1, 0), 1);
            x.exchange(0, 2);
            outcome(x, 7, way == 1, 0, 0, 7);
            x.off(1, false);
            x.exchange(0, 1);
            outcome(x, 7, way == 1, 0, 0, 7);
            // DORMANT ones are taken for nothing here, too.
            x.set(0, 1);
            x.remove(0, 0, 1);
            x.pass(2);
            x.off(2, true);
            x.off(1, true);
            outcome(x, 7, way == 1, 0, 0, 7);
            LateCopies y = on("05");
            y.set(0, 1);
            y.put(0, 0, 1);
            y.remove(0, 0, 1);
            due("awake", y.settle(7, way == 1, 0), 1);
            y.pass(2);
            outcome(y, 7, way == 1, 0, 0, 7);
        }
    }

    /**
     * SITES 0 and 1 have a CERTIFICATE of ACTIVATION 2 without HEAT, SITE 2 has nothing: by RUMOURS they become
     * ALIKE no sooner than it is DORMANT, with SHORT 50 at 53.
     */
    private static LateCopies coldCertificate(int now) {
        LateCopies x = on("055");
        x.set(0, 50);
        x.put(0, 0, 1);
        x.remove(0, 0, 1);
        x.exchange(0, 1);
        x.rumour(0, 1);
        x.rumour(0, 1);
        due("HEAT", x.has(0, 0, 6), 0);
        passTo(x, now);
        return x;
    }

    private static void fortyAtMost() {
        sentence(18, "else in each ROUND (40 at most) NOW is 1 more");
        outcome(coldCertificate(52), 7, true, 1, 0, seedAfter(7, 3));
        outcome(coldCertificate(51), 7, true, 2, 0, seedAfter(7, 6));
        outcome(coldCertificate(14), 7, true, 39, 0, seedAfter(7, 117));
        outcome(coldCertificate(13), 7, true, 40, 0, seedAfter(7, 120));
        outcome(coldCertificate(12), 7, true, NONE, 0, seedAfter(7, 120));
        outcome(coldCertificate(2), 7, true, NONE, 0, seedAfter(7, 120));
        // A VALUE never sleeps: without HEAT it stays where it is.
        LateCopies x = on("059");
        x.set(2, 1);
        x.put(0, 0, 1);
        x.exchange(0, 1);
        x.rumour(0, 1);
        outcome(x, 7, true, NONE, 0, seedAfter(7, 120));
        goneInARound();
    }

    /**
     * By NOW of the first ROUND a CERTIFICATE (KEEPER: SITE 0) is above SHORT. At SITE 1 it is GONE, and the old
     * VALUE of SITE 2 comes there; at SITE 0 it sleeps and is WOKEN by that VALUE, unless LONG is 0.
     */
    private static void goneInARound() {
        LateCopies x = on("055");
        x.set(0, 3);
        x.put(0, 0, 1);
        x.exchange(0, 2);
        x.remove(0, 0, 1);
        x.exchange(0, 1);
        x.pass(3);
        offOnly(x, 1);
        outcome(x, 7, false, 1, 1, seedAfter(7, 2));
        offOnly(x, 2);
        outcome(x, 7, false, 1, 3, seedAfter(7, 2));
        x.set(1, 0);
        outcome(x, 7, false, 1, 1, seedAfter(7, 2));
        due("GONE stays", x.count(6), 0);
        due("WOKEN stays", x.count(5), 0);
    }

    private static void aboveLatest() {
        sentence(18, "(above 9999, too)");
        LateCopies x = on("055");
        x.set(0, 50);
        passTo(x, 9958);
        x.put(0, 0, 1);
        x.remove(0, 0, 1);
        x.exchange(0, 1);
        x.rumour(0, 1);
        x.rumour(0, 1);
        passTo(x, LATEST);
        due("ACTIVATION", x.has(0, 0, 3), 9960);
        outcome(x, 7, true, 12, 0, seedAfter(7, 36));
        due("NOW stays", x.count(2), LATEST);
        due("the CERTIFICATE stays", x.has(1, 0, 0), 2);
        for (int way = 0; way < 2; way++) {
            LateCopies y = on("05");
            y.set(0, 1);
            y.put(0, 0, 1);
            passTo(y, 9997);
            y.remove(0, 0, 1);
            y.pass(1);
            outcome(y, 7, way == 1, 1, 0, seedAfter(7, 2));
            due("it is awake", y.has(0, 0, 5), 0);
            due("pass(1)", y.pass(1), FULL);
        }
        LateCopies z = on("059");
        passTo(z, 9998);
        z.put(0, 0, 1);
        holds("ROUNDS at 9999", z.settle(7, false, 0) >= 1);
    }

    private static void eachInTurn() {
        sentence(18, "then each SITE that is not OFF and has a PARTNER, by number, EXCHANGES with one (or tells its RUMOURS);");
        // By number: SITE 0 has nothing to tell, then SITE 1 tells; or SITE 0 tells, and SITE 1 tells it back.
        LateCopies x = on("05");
        x.put(1, 0, 1);
        outcome(x, 7, true, 1, 1, seedAfter(7, 2));
        x.exchange(0, 1);
        x.put(0, 0, 1);
        outcome(x, 7, true, 1, 2, seedAfter(7, 2));
        // OFF ones take no turn and are no PARTNERS.
        LateCopies y = on("0159");
        y.put(3, 0, 1);
        offOnly(y, 6);
        outcome(y, 7, false, 1, 3, seedAfter(7, 2));
        outcome(y, 7, true, 1, 1, seedAfter(7, 2));
        String[] texts = {"05", "0159", "113377", "000000", "012345", "019", "077889"};
        for (String text : texts) {
            for (int seed = 0; seed < 16; seed++) {
                asPlayed(text, seed, seed % 2 == 1, seed % 4 > 1 && text.length() > 2 ? 4 : 0);
            }
        }
    }

    private static void endsBehindARound() {
        sentence(18, "behind it, if all are ALIKE, it ends.");
        // SITE 0's EXCHANGE makes both ALIKE (1 of TRAFFIC), yet SITE 1 has its turn (2 more, and a DRAW).
        LateCopies x = on("05");
        x.put(0, 0, 1);
        outcome(x, 7, false, 1, 3, seedAfter(7, 2));
        outcome(x, 7, true, 1, 2, seedAfter(7, 2));
        // Nothing is RECENT: the second turn finds them ALIKE and has no TRAFFIC.
        x.pass(20);
        outcome(x, 7, false, 1, 1, seedAfter(7, 2));
        LateCopies y = on("05");
        for (int key = 0; key < KEYS; key++) {
            y.put(key & 1, key, 1);
        }
        outcome(y, 7, false, 1, 12, seedAfter(7, 2));
        outcome(y, 7, true, 1, 6, seedAfter(7, 2));
    }

    private static void settleTells() {
        sentence(18, "SETTLING, by EXCHANGES (rumours false) or RUMOURS: what = 0 how many ROUNDS (NONE: not in 40), 1 TRAFFIC by it, 2 the SEED then.");
        LateCopies x = on("05");
        x.put(0, 0, 1);
        x.exchange(0, 1);
        x.exchange(0, 1);
        x.put(0, 1, 1);
        x.pass(20);
        due("TRAFFIC ahead", x.count(4), 3);
        // By EXCHANGES all KEYS MEET; by RUMOURS both HOT ones are told, one of them anew.
        outcome(x, 7, false, 1, 3, seedAfter(7, 2));
        outcome(x, 7, true, 1, 3, seedAfter(7, 2));
        due("TRAFFIC stays", x.count(4), 3);
        x.rumour(0, 1);
        x.rumour(0, 1);
        x.rumour(0, 1);
        x.put(1, 1, 2);
        x.exchange(1, 0);
        outcome(x, 7, true, 0, 0, 7);
        LateCopies y = on("059");
        y.set(2, 1);
        y.put(0, 0, 1);
        y.exchange(0, 1);
        y.rumour(0, 1);
        due("NONE", y.settle(7, true, 0), NONE);
        due("TRAFFIC of 40 ROUNDS", y.settle(7, true, 1), 0);
        due("the SEED of 40 ROUNDS", y.settle(7, true, 2), seedAfter(7, 120));
        holds("by EXCHANGES it settles", y.settle(7, false, 0) > 0);
        due("each call begins anew", y.settle(7, true, 2), seedAfter(7, 120));
    }

    private static void settleOutside() {
        sentence(18, "OUTSIDE: seed (0 or more), what;");
        LateCopies x = new LateCopies();
        for (int n = 0; n < 2; n++) {
            for (int way = 0; way < 2; way++) {
                boolean rumours = way == 1;
                due("settle(-1, .., 0)", x.settle(-1, rumours, 0), OUTSIDE);
                due("settle(least, .., 2)", x.settle(LEAST, rumours, 2), OUTSIDE);
                due("settle(0, .., -1)", x.settle(0, rumours, -1), OUTSIDE);
                due("settle(0, .., 3)", x.settle(0, rumours, 3), OUTSIDE);
                due("settle(0, .., least)", x.settle(0, rumours, LEAST), OUTSIDE);
                due("settle(0, .., most)", x.settle(0, rumours, MOST), OUTSIDE);
                due("settle(-1, .., 3)", x.settle(-1, rumours, 3), OUTSIDE);
            }
            read(x, "05");
        }
        due("settle(0, false, 2)", x.settle(0, false, 2), 0);
        due("settle(most, true, 2)", x.settle(MOST, true, 2), MOST);
    }

    private static void settleState() {
        sentence(18, "STATE: no LINE.");
        LateCopies x = new LateCopies();
        for (int what = 0; what <= 2; what++) {
            due("settle(0, false, " + what + ")", x.settle(0, false, what), STATE);
            due("settle(most, true, " + what + ")", x.settle(MOST, true, what), STATE);
        }
        write(x, "05");
        due("a LINE that is not read", x.settle(0, false, 0), STATE);
        x.line();
        due("a LINE", x.settle(0, false, 0), 0);
        write(x, "50");
        x.line();
        due("the LINE stays", x.settle(0, false, 0), 0);
    }
}
