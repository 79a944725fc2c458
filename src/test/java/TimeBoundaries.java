/** Promises 6 and 9: what set() tells, NOW, and CERTIFICATES that are DORMANT or GONE by these. */
final class TimeBoundaries extends Boundaries {
    private TimeBoundaries() {
    }

    static void all() {
        setShort();
        setLong();
        setInterest();
        setRecent();
        setTells();
        setOutside();
        passMovesNow();
        passTellsGone();
        passOutside();
        passState();
        passFull();
        dormantAboveShort();
        goneAtOnce();
        goneIfNoKeeper();
        goneAboveBoth();
    }

    /** SITE 0 has a CERTIFICATE of KEY 0 (STAMP 2), SITES 1 to 3 copies of it; its KEEPERS are SITES 0 and 1. */
    private static LateCopies certified(int shortTime, int longTime) {
        LateCopies x = on("0159");
        x.set(0, shortTime);
        x.set(1, longTime);
        x.put(0, 0, 5);
        x.remove(0, 0, 2);
        for (int other = 1; other <= 3; other++) {
            x.exchange(0, other);
        }
        return x;
    }

    private static void sorts(LateCopies x, int... want) {
        for (int site = 0; site < want.length; site++) {
            due("has(" + site + ", 0, 0)", x.has(site, 0, 0), want[site]);
        }
    }

    private static void bounds(int what, int least, int most) {
        LateCopies x = new LateCopies();
        int was = x.count(7 + what);
        int[] wrong = {least - 1, most + 1, -1, LEAST, MOST};
        for (int v : wrong) {
            due("set(" + what + ", " + v + ")", x.set(what, v), OUTSIDE);
            due("count(" + (7 + what) + ") stays", x.count(7 + what), was);
        }
        for (int v = least; v <= most; v++) {
            due("set(" + what + ", " + v + ")", x.set(what, v), was);
            was = v;
        }
        due("count(" + (7 + what) + ")", x.count(7 + what), most);
    }

    private static void setShort() {
        sentence(6, "What = 0 SHORT (1 to 50)");
        bounds(0, 1, 50);
        for (int v : new int[] {1, 2, 49, 50}) {
            LateCopies x = certified(v, 200);
            x.pass(v);
            due("DORMANT at SHORT", x.has(0, 0, 5), 0);
            sorts(x, 2, 2, 2, 2);
            x.pass(1);
            due("DORMANT above SHORT", x.has(0, 0, 5), 1);
            sorts(x, 2, 2, 0, 0);
        }
    }

    private static void setLong() {
        sentence(6, "1 LONG (0 to 200)");
        LateCopies x = new LateCopies();
        due("set(1, -1)", x.set(1, -1), OUTSIDE);
        due("set(1, 201)", x.set(1, 201), OUTSIDE);
        bounds(1, 0, 200);
        for (int v : new int[] {0, 1, 199, 200}) {
            LateCopies y = certified(3, v);
            y.pass(3 + v);
            sorts(y, 2, 2);
            y.pass(1);
            sorts(y, 0, 0, 0, 0);
        }
    }

    private static void setInterest() {
        sentence(6, "2 INTEREST (1 to 3)");
        bounds(2, 1, 3);
        for (int v = 1; v <= 3; v++) {
            LateCopies x = on("05");
            x.set(2, v);
            x.put(0, 0, 1);
            due("HEAT", x.has(0, 0, 6), v);
            x.rumour(0, 1);
            due("HEAT of a copy", x.has(1, 0, 6), v);
            for (int n = 0; n < 5; n++) {
                x.rumour(0, 1);
            }
            due("it is told once, then as often as INTEREST says", x.count(4), 1 + v);
        }
    }

    private static void setRecent() {
        sentence(6, "3 RECENT (0 to 50)");
        bounds(3, 0, 50);
        for (int v : new int[] {0, 1, 49, 50}) {
            LateCopies x = on("05");
            x.put(0, 0, 1);
            x.exchange(0, 1);
            x.set(3, v);
            if (v > 1) {
                x.pass(v - 1);
            }
            x.exchange(0, 1);
            due("TRAFFIC below RECENT " + v, x.count(4), v == 0 ? 1 : 3);
            x.pass(1);
            x.exchange(0, 1);
            due("TRAFFIC at RECENT " + v, x.count(4), v == 0 ? 1 : 3);
        }
    }

    private static void setTells() {
        sentence(6, "becomes v: what it was.");
        LateCopies x = on("05");
        int[] first = {10, 40, 2, 5};
        int[] second = {50, 0, 3, 0};
        for (int what = 0; what < 4; what++) {
            due("set(" + what + ", ..)", x.set(what, second[what]), first[what]);
            due("set(" + what + ", ..) to the same", x.set(what, second[what]), second[what]);
        }
        counts(x, 7, second);
        for (int what = 3; what >= 0; what--) {
            due("set(" + what + ", ..) back", x.set(what, first[what]), second[what]);
        }
        counts(x, 7, first);
        due("NOW stays", x.count(2), 0);
    }

    private static void setOutside() {
        sentence(6, "OUTSIDE: what, v.");
        LateCopies x = on("05");
        for (int what : new int[] {-1, 4, 5, 7, LEAST, MOST}) {
            for (int v : new int[] {1, 0, -1, 3, 300}) {
                due("set(" + what + ", " + v + ")", x.set(what, v), OUTSIDE);
            }
        }
        int[] tooLittle = {0, -1, 0, -1};
        int[] tooMuch = {51, 201, 4, 51};
        for (int what = 0; what < 4; what++) {
            due("set(" + what + ", too little)", x.set(what, tooLittle[what]), OUTSIDE);
            due("set(" + what + ", too much)", x.set(what, tooMuch[what]), OUTSIDE);
        }
        counts(x, 7, 10, 40, 2, 5);
    }

    private static void passMovesNow() {
        sentence(9, "NOW is n more (at once)");
        LateCopies x = on("05");
        due("pass(1)", x.pass(1), 0);
        due("NOW", x.count(2), 1);
        due("pass(300)", x.pass(300), 0);
        due("NOW", x.count(2), 301);
        due("the next STAMP", x.put(0, 0, 0), 302);
        LateCopies y = certified(1, 0);
        due("pass(300): GONE once", y.pass(300), 4);
        due("GONE", y.count(6), 4);
        due("STAMP", y.put(0, 0, 1), 303);
    }

    private static void passTellsGone() {
        sentence(9, "how many CERTIFICATES are GONE by that, at all SITES together.");
        LateCopies x = certified(3, 4);
        due("pass(3)", x.pass(3), 0);
        due("pass(1)", x.pass(1), 2);
        due("pass(3)", x.pass(3), 0);
        due("pass(1)", x.pass(1), 2);
        due("pass(1)", x.pass(1), 0);
        due("GONE in all", x.count(6), 4);
        LateCopies y = on("000000");
        for (int key = 0; key < KEYS; key++) {
            y.put(0, key, key);
            y.remove(0, key, 1);
        }
        for (int other = 1; other < 6; other++) {
            y.exchange(0, other);
        }
        y.put(0, 0, 0);
        due("NOW", y.count(2), 9);
        due("none is GONE yet", y.pass(3), 0);
        due("all but those of KEEPERS, of KEY 0 (STAMP 2)", y.pass(1), 5);
        due("of KEYS 1 to 3, too", y.pass(6), 15);
        due("those of KEEPERS; a VALUE stays", y.pass(300), 3);
        due("GONE in all", y.count(6), 23);
        value(y, 0, 0, 0, 9, 2);
    }

    private static void passOutside() {
        sentence(9, "OUTSIDE: n (1 to 300)");
        LateCopies x = on("05");
        for (int n : new int[] {0, -1, 301, LEAST, MOST}) {
            due("pass(" + n + ")", x.pass(n), OUTSIDE);
            due("NOW stays", x.count(2), 0);
        }
        due("pass(1)", x.pass(1), 0);
        due("pass(300)", x.pass(300), 0);
        due("NOW", x.count(2), 301);
    }

    private static void passState() {
        sentence(9, "STATE: no LINE");
        LateCopies x = new LateCopies();
        due("pass(1)", x.pass(1), STATE);
        due("pass(300)", x.pass(300), STATE);
        write(x, "05");
        due("pass(1), a LINE that is not read", x.pass(1), STATE);
        due("NOW", x.count(2), 0);
        x.line();
        due("pass(1) with a LINE", x.pass(1), 0);
        offOnly(x, 3);
        due("pass(1), all are OFF", x.pass(1), 0);
    }

    private static void passFull() {
        sentence(9, "FULL: NOW would be above 9999.");
        LateCopies x = on("05");
        passTo(x, 9699);
        due("pass(300) to 9999", x.pass(300), 0);
        due("NOW", x.count(2), 9999);
        due("pass(1) at 9999", x.pass(1), FULL);
        due("pass(300) at 9999", x.pass(300), FULL);
        due("NOW stays", x.count(2), 9999);
        LateCopies y = on("05");
        passTo(y, 9690);
        y.put(0, 0, 1);
        y.remove(0, 0, 1);
        due("NOW", y.count(2), 9692);
        y.pass(8);
        due("pass(300) at 9700", y.pass(300), FULL);
        due("none is GONE by a refused call", y.count(6), 0);
        due("NOW stays", y.count(2), 9700);
        due("pass(299) at 9700", y.pass(299), 1);
    }

    private static void dormantAboveShort() {
        sentence(9, "A CERTIFICATE is DORMANT, if NOW less its ACTIVATION is above SHORT.");
        LateCopies x = certified(4, 40);
        for (int age = 0; age <= 4; age++) {
            due("DORMANT at " + age, x.has(0, 0, 5), 0);
            x.pass(1);
        }
        due("DORMANT at 5", x.has(0, 0, 5), 1);
        x.set(0, 5);
        due("DORMANT no more, by set()", x.has(0, 0, 5), 0);
        x.set(0, 4);
        due("DORMANT again, by set()", x.has(0, 0, 5), 1);
        due("HEAT stays", x.has(0, 0, 6), 2);
        x.put(3, 0, 1);
        x.pass(300);
        due("a VALUE is never DORMANT", x.has(3, 0, 5), 0);
        due("a VALUE stays", x.has(3, 0, 0), 1);
        wokenAnew();
    }

    /** One that was WOKEN has another ACTIVATION, and SHORT counts from it. */
    private static void wokenAnew() {
        LateCopies x = on("059");
        x.set(0, 2);
        x.put(0, 0, 1);
        x.exchange(0, 2);
        x.remove(0, 0, 1);
        x.pass(3);
        x.exchange(0, 2);
        item(x, 0, 0, 2, NONE, 2, 5, 1, 0, 2);
        x.pass(2);
        due("DORMANT, 2 behind ACTIVATION", x.has(0, 0, 5), 0);
        due("pass(1): GONE at SITE 2", x.pass(1), 1);
        due("DORMANT, 3 behind ACTIVATION", x.has(0, 0, 5), 1);
        due("pass(39): 42 behind ACTIVATION", x.pass(39), 0);
        due("pass(1): 43 behind it", x.pass(1), 1);
    }

    private static void goneAtOnce() {
        sentence(6, "As NOW or what set() tells becomes so, it is GONE at once, at any SITE, OFF or not:");
        LateCopies x = certified(10, 40);
        x.off(2, true);
        x.pass(5);
        due("set(0, 5)", x.set(0, 5), 10);
        sorts(x, 2, 2, 2, 2);
        due("set(0, 4)", x.set(0, 4), 5);
        sorts(x, 2, 2, 0, 0);
        due("GONE", x.count(6), 2);
        due("set(0, 50)", x.set(0, 50), 4);
        sorts(x, 2, 2, 0, 0);
        due("set(0, 4)", x.set(0, 4), 50);
        due("GONE stays", x.count(6), 2);
        offOnly(x, 15);
        due("set(1, 1)", x.set(1, 1), 40);
        sorts(x, 2, 2, 0, 0);
        due("set(1, 0)", x.set(1, 0), 1);
        sorts(x, 0, 0, 0, 0);
        due("GONE", x.count(6), 4);
        LateCopies y = certified(10, 40);
        offOnly(y, 15);
        due("pass(11), all are OFF", y.pass(11), 2);
        due("pass(40), all are OFF", y.pass(40), 2);
        LateCopies z = certified(10, 40);
        z.pass(10);
        sorts(z, 2, 2, 2, 2);
        z.put(3, 3, 1);
        sorts(z, 2, 2, 0, 0);
        due("GONE by NOW of put()", z.count(6), 2);
        z.pass(39);
        z.remove(3, 3, 1);
        sorts(z, 0, 0, 0, 0);
        due("GONE by NOW of remove()", z.count(6), 4);
    }

    private static void goneIfNoKeeper() {
        sentence(6, "if it is DORMANT and the SITE is none of its KEEPERS");
        LateCopies x = certified(3, 40);
        x.pass(3);
        sorts(x, 2, 2, 2, 2);
        x.pass(1);
        sorts(x, 2, 2, 0, 0);
        x.pass(39);
        sorts(x, 2, 2, 0, 0);
        // The KEEPERS of a copy are those of the CERTIFICATE, though the SITE where it began has another ITEM.
        LateCopies y = on("0159");
        y.set(0, 3);
        y.put(3, 0, 5);
        y.remove(3, 0, 2);
        y.exchange(3, 0);
        y.exchange(3, 2);
        y.put(3, 0, 6);
        y.pass(3);
        sorts(y, 0, 0, 2, 1);
        item(y, 2, 0, 2, NONE, 2, 2, 12, 1, 0);
        due("GONE", y.count(6), 1);
        // It matters that a SITE is none of the KEEPERS of this CERTIFICATE, not of another one.
        LateCopies z = on("0159");
        z.set(0, 3);
        z.put(0, 0, 5);
        z.put(0, 1, 5);
        z.remove(0, 0, 1);
        z.remove(0, 1, 2);
        z.exchange(0, 1);
        z.pass(4);
        due("KEY 0 at SITE 1", z.has(1, 0, 0), 0);
        due("KEY 1 at SITE 1", z.has(1, 1, 0), 2);
        due("GONE", z.count(6), 1);
    }

    private static void goneAboveBoth() {
        sentence(6, "if NOW less its ACTIVATION is above SHORT and LONG together.");
        int[][] limits = {{1, 0}, {1, 1}, {3, 4}, {10, 40}, {50, 200}, {50, 0}};
        for (int[] limit : limits) {
            LateCopies x = certified(limit[0], limit[1]);
            x.pass(limit[0] + limit[1]);
            sorts(x, 2, 2);
            due("DORMANT at SHORT and LONG", x.has(0, 0, 5), limit[1] > 0 ? 1 : 0);
            x.pass(1);
            sorts(x, 0, 0, 0, 0);
            due("GONE", x.count(6), 4);
        }
        LateCopies y = certified(10, 40);
        y.pass(50);
        y.set(1, 39);
        sorts(y, 0, 0, 0, 0);
        LateCopies z = certified(10, 40);
        z.pass(50);
        z.set(0, 9);
        sorts(z, 0, 0, 0, 0);
        LateCopies w = certified(10, 40);
        w.pass(50);
        w.set(0, 50);
        w.set(1, 0);
        sorts(w, 2, 2, 0, 0);
        due("awake again by set()", w.has(0, 0, 5), 0);
        due("GONE", w.count(6), 2);
    }
}
