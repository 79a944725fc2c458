/** Each promise of the document by itself: ordinary inputs, the edges that it names, wrong inputs. */
public final class PromiseTest extends Asking {
    public static void main(String[] args) {
        startChecks("PromiseTest");
        newObject();
        letter();
        blank();
        fault();
        line();
        set();
        put();
        putTakesThePlace();
        remove();
        keepers();
        pass();
        dormantAndGone();
        off();
        exchange();
        exchangeTraffic();
        meetingWakes();
        rumour();
        rumourWakes();
        has();
        newest();
        alike();
        risen();
        partner();
        partnerByWeights();
        settle();
        settleAsPlayed();
        settleChangesNothing();
        count();
        digest();
        endChecks();
    }

    private static void newObject() {
        at("1 new object");
        LateCopies x = new LateCopies();
        counts(x, 0, 0, 0, 0, 0, 0, 0, 0, 10, 40, 2, 5, 0);
        due("line()", x.line(), STATE);
        due("has(0, 0, 0)", x.has(0, 0, 0), UNKNOWN);
        due("fault()", x.fault(), 0);
        due("NONE", LateCopies.NONE, NONE);
        due("UNKNOWN", LateCopies.UNKNOWN, UNKNOWN);
        due("OUTSIDE", LateCopies.OUTSIDE, OUTSIDE);
        due("STATE", LateCopies.STATE, STATE);
        due("FULL", LateCopies.FULL, FULL);
    }

    private static void letter() {
        at("2 letter");
        LateCopies x = new LateCopies();
        due("letter(31)", x.letter(31), OUTSIDE);
        due("letter(127)", x.letter(127), OUTSIDE);
        due("letter(-1)", x.letter(-1), OUTSIDE);
        due("letter(least)", x.letter(Integer.MIN_VALUE), OUTSIDE);
        due("letter(most)", x.letter(Integer.MAX_VALUE), OUTSIDE);
        due("letter(32)", x.letter(32), 1);
        due("letter(126)", x.letter(126), 2);
        for (int n = 3; n <= 6; n++) {
            due("letter('0')", x.letter('0'), n);
        }
        due("letter 7", x.letter('0'), FULL);
        due("letter 7, OUTSIDE first", x.letter(31), OUTSIDE);
        due("count(0)", x.count(0), 6);
        due("blank()", x.blank(), 6);
        due("letter('0') again", x.letter('0'), 1);
    }

    private static void blank() {
        at("3 blank");
        LateCopies x = new LateCopies();
        due("blank()", x.blank(), 0);
        write(x, "x12");
        due("blank()", x.blank(), 3);
        due("blank() again", x.blank(), 0);
        write(x, "12");
        due("line() after blank()", x.line(), 2);
        due("blank() after line()", x.blank(), 0);
        due("SITES stay", x.count(1), 2);
    }

    private static void fault() {
        at("4 fault");
        String[] texts = {"", "0", "9", "00", "10", "98", "99", "0123", "01232", "012a", " 12", "1/2", "1:2",
            "123456", "999999", "123454", "55 555", "0x"};
        int[] places = {0, 1, 1, 2, 1, 1, 2, 4, 4, 3, 0, 1, 1, 6, 6, 5, 2, 1};
        for (int i = 0; i < texts.length; i++) {
            LateCopies x = new LateCopies();
            write(x, texts[i]);
            due("fault() of '" + texts[i] + "'", x.fault(), places[i]);
            due("count(0) of '" + texts[i] + "'", x.count(0), texts[i].length());
        }
    }

    private static void line() {
        at("5 line");
        LateCopies x = new LateCopies();
        write(x, "5");
        due("line() of 5", x.line(), STATE);
        due("THE PAGE stays", x.count(0), 1);
        write(x, "53");
        due("line() of 53", x.line(), STATE);
        due("THE PAGE stays", x.count(0), 2);
        due("no LINE", x.count(1), 0);
        due("none read", x.count(11), 0);
        read(x, "055");
        due("THE PAGE is empty", x.count(0), 0);
        due("SITES", x.count(1), 3);
        due("read", x.count(11), 1);
        x.set(0, 1);
        x.put(0, 0, 1);
        x.exchange(0, 2);
        x.put(0, 1, 1);
        x.remove(0, 0, 1);
        x.exchange(0, 1);
        x.pass(3);
        x.exchange(0, 2);
        x.off(2, true);
        write(x, "3x");
        due("line() of 3x", x.line(), STATE);
        due("the LINE stays", x.count(1), 3);
        due("NOW stays", x.count(2), 6);
        due("WOKEN", x.count(5), 1);
        due("GONE", x.count(6), 1);
        read(x, "01");
        counts(x, 0, 0, 2, 0, 0, 0, 0, 0, 1, 40, 2, 5, 2);
        for (int key = 0; key < 4; key++) {
            nothing(x, 0, key);
            nothing(x, 1, key);
        }
        due("put(2, 0, 1): SITE 2 is gone", x.put(2, 0, 1), UNKNOWN);
        due("put(0, 0, 1)", x.put(0, 0, 1), 1);
        due("risen(0): CERTIFICATES of another LINE", x.risen(0), 0);
        read(x, "000000");
        due("off(2, false)", x.off(2, false), 0);
    }

    private static void set() {
        at("6 set");
        int[] least = {1, 0, 1, 0};
        int[] most = {50, 200, 3, 50};
        int[] first = {10, 40, 2, 5};
        for (int what = 0; what < 4; what++) {
            LateCopies x = new LateCopies();
            due("set(" + what + ", too little)", x.set(what, least[what] - 1), OUTSIDE);
            due("set(" + what + ", too much)", x.set(what, most[what] + 1), OUTSIDE);
            due("set(" + what + ", -1)", x.set(what, -1), OUTSIDE);
            due("set(" + what + ", least)", x.set(what, least[what]), first[what]);
            due("set(" + what + ", most)", x.set(what, most[what]), least[what]);
            due("count()", x.count(7 + what), most[what]);
            due("set(" + what + ", most) again", x.set(what, most[what]), most[what]);
            for (int other = 0; other < 4; other++) {
                if (other != what) {
                    due("others stay", x.count(7 + other), first[other]);
                }
            }
        }
        LateCopies x = on("05");
        due("set(-1, 1)", x.set(-1, 1), OUTSIDE);
        due("set(4, 1)", x.set(4, 1), OUTSIDE);
        due("set(most, 1)", x.set(Integer.MAX_VALUE, 1), OUTSIDE);
        setTakesAtOnce();
    }

    private static void setTakesAtOnce() {
        LateCopies x = on("059");
        x.put(0, 0, 1);
        x.remove(0, 0, 1);
        x.exchange(0, 1);
        x.exchange(0, 2);
        x.off(2, true);
        x.pass(10);
        item(x, 1, 0, 2, NONE, 2, 2, 1, 0, 0);
        due("set(0, 9)", x.set(0, 9), 10);
        item(x, 0, 0, 2, NONE, 2, 2, 1, 1, 2);
        nothing(x, 1, 0);
        nothing(x, 2, 0);
        due("GONE by set(), OFF or not", x.count(6), 2);
        due("set(0, 10)", x.set(0, 10), 9);
        item(x, 0, 0, 2, NONE, 2, 2, 1, 0, 2);
        nothing(x, 1, 0);
        due("set(1, 0)", x.set(1, 0), 40);
        item(x, 0, 0, 2, NONE, 2, 2, 1, 0, 2);
        due("set(0, 9)", x.set(0, 9), 10);
        nothing(x, 0, 0);
        due("GONE", x.count(6), 3);
        LateCopies y = on("05");
        y.put(0, 3, 1);
        due("set(2, 3)", y.set(2, 3), 2);
        item(y, 0, 3, 1, 1, 1, 1, NONE, 0, 2);
        y.put(0, 3, 2);
        item(y, 0, 3, 1, 2, 2, 2, NONE, 0, 3);
    }

    private static void put() {
        at("7 put");
        LateCopies x = new LateCopies();
        due("put without a LINE", x.put(0, 0, 0), UNKNOWN);
        read(x, "139");
        due("put(-1, 0, 0)", x.put(-1, 0, 0), UNKNOWN);
        due("put(3, 0, 0)", x.put(3, 0, 0), UNKNOWN);
        due("put(0, -1, 0)", x.put(0, -1, 0), UNKNOWN);
        due("put(0, 4, 0)", x.put(0, 4, 0), UNKNOWN);
        due("put(0, 4, 10), UNKNOWN first", x.put(0, 4, 10), UNKNOWN);
        due("put(most, least, 0)", x.put(Integer.MAX_VALUE, Integer.MIN_VALUE, 0), UNKNOWN);
        due("put(0, 0, -1)", x.put(0, 0, -1), OUTSIDE);
        due("put(0, 0, 10)", x.put(0, 0, 10), OUTSIDE);
        x.off(1, true);
        due("put(1, 0, 0), OFF", x.put(1, 0, 0), STATE);
        due("put(1, 0, 10), OUTSIDE first", x.put(1, 0, 10), OUTSIDE);
        due("put(1, 4, 0), UNKNOWN first", x.put(1, 4, 0), UNKNOWN);
        due("NOW stays", x.count(2), 0);
        due("put(0, 0, 0)", x.put(0, 0, 0), 1);
        due("put(2, 3, 9)", x.put(2, 3, 9), 2);
        value(x, 0, 0, 0, 1, 2);
        value(x, 2, 3, 9, 2, 2);
        nothing(x, 1, 0);
        nothing(x, 0, 3);
        due("put(0, 0, 5)", x.put(0, 0, 5), 3);
        value(x, 0, 0, 5, 3, 2);
        due("TRAFFIC", x.count(4), 0);
        passTo(x, 9998);
        due("put at 9998", x.put(0, 1, 1), 9999);
        due("put at 9999", x.put(0, 1, 2), FULL);
        due("put at 9999, OFF, STATE first", x.put(1, 1, 2), STATE);
        due("put at 9999, OUTSIDE first", x.put(0, 1, 10), OUTSIDE);
        value(x, 0, 1, 1, 9999, 2);
    }

    private static void putTakesThePlace() {
        LateCopies x = on("05");
        x.set(0, 3);
        x.set(1, 0);
        x.put(0, 0, 1);
        x.remove(0, 0, 2);
        x.exchange(0, 1);
        x.pass(2);
        due("put in a CERTIFICATE's place", x.put(0, 0, 4), 5);
        value(x, 0, 0, 4, 5, 2);
        due("it is not GONE by NOW", x.count(6), 0);
        due("put as one ends by NOW, at its own place", x.put(1, 0, 6), 6);
        value(x, 1, 0, 6, 6, 2);
        due("that one is GONE by NOW", x.count(6), 1);
    }

    private static void remove() {
        at("8 remove");
        LateCopies x = new LateCopies();
        due("remove without a LINE", x.remove(0, 0, 1), UNKNOWN);
        read(x, "139");
        due("remove(-1, 0, 1)", x.remove(-1, 0, 1), UNKNOWN);
        due("remove(3, 0, 1)", x.remove(3, 0, 1), UNKNOWN);
        due("remove(0, -1, 1)", x.remove(0, -1, 1), UNKNOWN);
        due("remove(0, 4, 0), UNKNOWN first", x.remove(0, 4, 0), UNKNOWN);
        due("remove(0, 0, 0), OUTSIDE first", x.remove(0, 0, 0), OUTSIDE);
        due("remove(0, 0, 4), OUTSIDE first", x.remove(0, 0, 4), OUTSIDE);
        due("remove(0, 0, 1), no VALUE", x.remove(0, 0, 1), STATE);
        x.put(0, 0, 7);
        x.put(1, 0, 8);
        x.off(1, true);
        due("remove(1, 0, 1), OFF", x.remove(1, 0, 1), STATE);
        due("remove(1, 0, 4), OUTSIDE first", x.remove(1, 0, 4), OUTSIDE);
        due("NOW stays", x.count(2), 2);
        due("remove(0, 0, 1)", x.remove(0, 0, 1), 3);
        item(x, 0, 0, 2, NONE, 3, 3, 1, 0, 2);
        value(x, 1, 0, 8, 2, 2);
        due("remove(0, 0, 1), a CERTIFICATE", x.remove(0, 0, 1), STATE);
        due("NOW stays", x.count(2), 3);
        due("put(0, 0, 1)", x.put(0, 0, 1), 4);
        x.set(2, 1);
        due("remove(0, 0, 2)", x.remove(0, 0, 2), 5);
        item(x, 0, 0, 2, NONE, 5, 5, 3, 0, 1);
        x.put(0, 1, 1);
        x.put(0, 2, 1);
        passTo(x, 9998);
        due("remove at 9998", x.remove(0, 1, 1), 9999);
        due("remove at 9999", x.remove(0, 2, 1), FULL);
        due("remove at 9999, no VALUE, STATE first", x.remove(0, 3, 1), STATE);
        value(x, 0, 2, 1, 7, 1);
    }

    private static void keepers() {
        keepersOf("139", 1, new int[] {2, 3, 7});
        keepersOf("246", 1, new int[] {2, 3, 7});
        keepersOf("245", 1, new int[] {2, 6, 7});
        keepersOf("05", 1, new int[] {2, 3, 3});
        keepersOf("000000", 4, new int[] {16, 17, 19});
        keepersOf("012345", 5, new int[] {32, 48, 56});
        keepersOf("113377", 3, new int[] {8, 12, 13});
        keepersOf("012349", 5, new int[] {32, 48, 56});
    }

    private static void keepersOf(String text, int site, int[] bits) {
        for (int howMany = 1; howMany <= 3; howMany++) {
            LateCopies x = on(text);
            for (int other = 0; other < text.length(); other++) {
                x.off(other, other != site);
            }
            x.put(site, 0, 1);
            due("remove(" + site + ", 0, " + howMany + ")", x.remove(site, 0, howMany), 2);
            due("KEEPERS of " + text, x.has(site, 0, 4), bits[howMany - 1]);
        }
    }

    private static void pass() {
        at("9 pass");
        LateCopies x = new LateCopies();
        due("pass(1) without a LINE", x.pass(1), STATE);
        due("pass(0) without a LINE, OUTSIDE first", x.pass(0), OUTSIDE);
        read(x, "05");
        due("pass(0)", x.pass(0), OUTSIDE);
        due("pass(-1)", x.pass(-1), OUTSIDE);
        due("pass(301)", x.pass(301), OUTSIDE);
        due("pass(most)", x.pass(Integer.MAX_VALUE), OUTSIDE);
        due("NOW stays", x.count(2), 0);
        due("pass(300)", x.pass(300), 0);
        due("pass(1)", x.pass(1), 0);
        due("NOW", x.count(2), 301);
        passTo(x, 9990);
        due("pass(10) at 9990", x.pass(10), FULL);
        due("pass(301) at 9990, OUTSIDE first", x.pass(301), OUTSIDE);
        due("NOW stays", x.count(2), 9990);
        due("pass(9) at 9990", x.pass(9), 0);
        due("pass(1) at 9999", x.pass(1), FULL);
        due("NOW", x.count(2), 9999);
    }

    private static void dormantAndGone() {
        LateCopies x = on("0159");
        x.set(0, 4);
        x.set(1, 6);
        x.put(0, 2, 3);
        x.remove(0, 2, 2);
        x.exchange(0, 1);
        x.exchange(0, 2);
        x.exchange(0, 3);
        x.off(1, true);
        x.off(3, true);
        due("pass(4)", x.pass(4), 0);
        item(x, 0, 2, 2, NONE, 2, 2, 3, 0, 2);
        item(x, 3, 2, 2, NONE, 2, 2, 3, 0, 0);
        due("pass(1), GONE at others than KEEPERS", x.pass(1), 2);
        item(x, 0, 2, 2, NONE, 2, 2, 3, 1, 2);
        item(x, 1, 2, 2, NONE, 2, 2, 3, 1, 0);
        nothing(x, 2, 2);
        nothing(x, 3, 2);
        due("GONE", x.count(6), 2);
        due("pass(5)", x.pass(5), 0);
        item(x, 1, 2, 2, NONE, 2, 2, 3, 1, 0);
        due("pass(1), GONE at KEEPERS", x.pass(1), 2);
        nothing(x, 0, 2);
        nothing(x, 1, 2);
        due("GONE", x.count(6), 4);
        due("pass(1)", x.pass(1), 0);
        LateCopies y = on("05");
        y.put(0, 0, 1);
        y.remove(0, 0, 2);
        y.exchange(0, 1);
        due("pass(50)", y.pass(50), 0);
        due("pass(1)", y.pass(1), 2);
        LateCopies z = on("05");
        z.put(0, 0, 1);
        z.remove(0, 0, 1);
        z.exchange(0, 1);
        due("pass(300) at once", z.pass(300), 2);
        z.put(0, 0, 1);
        due("pass(300): a VALUE stays", z.pass(300), 0);
        value(z, 0, 0, 1, 303, 2);
    }

    private static void off() {
        at("10 off");
        LateCopies x = new LateCopies();
        due("off without a LINE", x.off(0, true), UNKNOWN);
        read(x, "012");
        due("off(-1, true)", x.off(-1, true), UNKNOWN);
        due("off(3, true)", x.off(3, true), UNKNOWN);
        due("off(32, true)", x.off(32, true), UNKNOWN);
        due("off(1, false)", x.off(1, false), 0);
        due("off(1, true)", x.off(1, true), 0);
        due("off(1, true) again", x.off(1, true), 1);
        due("off(2, true)", x.off(2, true), 0);
        due("OFF", x.count(3), 6);
        due("off(1, false)", x.off(1, false), 1);
        due("off(1, false) again", x.off(1, false), 0);
        due("OFF", x.count(3), 4);
        due("put(1, 0, 1)", x.put(1, 0, 1), 1);
        due("exchange(1, 2)", x.exchange(1, 2), STATE);
        due("off(2, false)", x.off(2, false), 1);
        due("exchange(1, 2)", x.exchange(1, 2), 1);
        due("off(2, true)", x.off(2, true), 0);
        value(x, 2, 0, 1, 1, 0);
    }

    private static void exchange() {
        at("11 exchange");
        LateCopies x = new LateCopies();
        due("exchange without a LINE", x.exchange(0, 1), UNKNOWN);
        read(x, "0123");
        due("exchange(-1, 0)", x.exchange(-1, 0), UNKNOWN);
        due("exchange(0, -1)", x.exchange(0, -1), UNKNOWN);
        due("exchange(4, 0)", x.exchange(4, 0), UNKNOWN);
        due("exchange(0, 4)", x.exchange(0, 4), UNKNOWN);
        due("exchange(2, 2)", x.exchange(2, 2), UNKNOWN);
        x.off(2, true);
        due("exchange(2, 0)", x.exchange(2, 0), STATE);
        due("exchange(0, 2)", x.exchange(0, 2), STATE);
        due("exchange(2, 2), UNKNOWN first", x.exchange(2, 2), UNKNOWN);
        due("exchange(2, 4), UNKNOWN first", x.exchange(2, 4), UNKNOWN);
        due("exchange of nothing", x.exchange(0, 1), 0);
        x.put(0, 0, 1);
        x.put(1, 0, 2);
        x.put(0, 1, 3);
        x.put(1, 2, 4);
        due("exchange(0, 1), both ways", x.exchange(0, 1), 3);
        value(x, 0, 0, 2, 2, 0);
        value(x, 1, 0, 2, 2, 2);
        value(x, 0, 1, 3, 3, 2);
        value(x, 1, 1, 3, 3, 0);
        value(x, 0, 2, 4, 4, 0);
        value(x, 1, 2, 4, 4, 2);
        nothing(x, 0, 3);
        due("exchange(1, 0) again", x.exchange(1, 0), 0);
        value(x, 1, 0, 2, 2, 2);
        due("NOW stays", x.count(2), 4);
        x.remove(1, 0, 2);
        due("a CERTIFICATE goes as VALUES do", x.exchange(0, 1), 1);
        item(x, 0, 0, 2, NONE, 5, 5, 3, 0, 0);
        x.put(3, 0, 9);
        due("a VALUE that is NEWER than a CERTIFICATE", x.exchange(3, 0), 3);
        value(x, 0, 0, 9, 6, 0);
        LateCopies y = on("000000");
        due("exchange(4, 5) of nothing", y.exchange(4, 5), 0);
        y.put(5, 3, 1);
        due("the last SITE, the last KEY", y.exchange(4, 5), 1);
        value(y, 4, 3, 1, 1, 0);
    }

    private static void exchangeTraffic() {
        LateCopies x = on("05");
        x.put(0, 0, 1);
        x.put(0, 1, 1);
        x.put(1, 1, 2);
        x.pass(10);
        x.put(0, 2, 1);
        due("TRAFFIC ahead", x.count(4), 0);
        due("RECENT first, then others", x.exchange(0, 1), 3);
        due("TRAFFIC: 1 first, then 1 and 2", x.count(4), 4);
        due("RECENT again", x.exchange(0, 1), 0);
        due("TRAFFIC: both of the RECENT one, others do not MEET", x.count(4), 6);
        x.pass(3);
        due("4 less than 5", x.exchange(0, 1), 0);
        x.pass(1);
        due("TRAFFIC", x.count(4), 8);
        due("NOW less ACTIVATION is 4", x.exchange(0, 1), 0);
        due("TRAFFIC", x.count(4), 10);
        x.pass(1);
        due("NOW less ACTIVATION is 5", x.exchange(0, 1), 0);
        due("TRAFFIC stays: ALIKE, none is RECENT", x.count(4), 10);
        x.set(3, 6);
        due("RECENT is 6", x.exchange(0, 1), 0);
        due("TRAFFIC", x.count(4), 12);
        x.set(3, 0);
        x.put(0, 3, 1);
        due("RECENT is 0: all are others", x.exchange(0, 1), 1);
        due("TRAFFIC: 2 of 0, 1, 2, and 1", x.count(4), 19);
        dormantTraffic();
    }

    private static void dormantTraffic() {
        LateCopies x = on("05");
        x.set(0, 1);
        x.set(3, 50);
        x.put(0, 0, 1);
        x.remove(0, 0, 2);
        x.exchange(0, 1);
        due("TRAFFIC", x.count(4), 1);
        x.pass(2);
        due("DORMANT ones do not count", x.exchange(0, 1), 0);
        due("TRAFFIC", x.count(4), 1);
        x.put(1, 1, 1);
        due("one that is RECENT", x.exchange(0, 1), 1);
        due("TRAFFIC", x.count(4), 2);
        item(x, 0, 0, 2, NONE, 2, 2, 3, 1, 2);
        due("WOKEN", x.count(5), 0);
    }

    private static void meetingWakes() {
        LateCopies x = on("0159");
        x.set(0, 3);
        x.put(0, 0, 1);
        x.exchange(0, 3);
        x.off(3, true);
        x.remove(0, 0, 1);
        x.exchange(0, 1);
        x.pass(4);
        nothing(x, 1, 0);
        due("a DORMANT one does not go", x.exchange(0, 1), 0);
        nothing(x, 1, 0);
        due("none WOKEN", x.count(5), 0);
        x.off(3, false);
        x.set(2, 3);
        int traffic = x.count(4);
        due("an old VALUE comes", x.exchange(3, 0), 1);
        due("TRAFFIC: the VALUE alone, as it was ahead", x.count(4), traffic + 1);
        due("WOKEN", x.count(5), 1);
        item(x, 0, 0, 2, NONE, 2, 6, 1, 0, 3);
        item(x, 3, 0, 2, NONE, 2, 6, 1, 0, 0);
        due("it goes again", x.exchange(0, 1), 1);
        item(x, 1, 0, 2, NONE, 2, 6, 1, 0, 0);
        due("GONE", x.count(6), 1);
        due("pass(3)", x.pass(3), 0);
        due("pass(1)", x.pass(1), 2);
        item(x, 0, 0, 2, NONE, 2, 6, 1, 1, 3);
        x.put(3, 0, 5);
        due("a VALUE of a greater STAMP", x.exchange(0, 3), 1);
        value(x, 0, 0, 5, 11, 0);
        due("WOKEN stays", x.count(5), 1);
        sleepersMeet();
        sleeperMeetsItsWokenCopy();
    }

    /** Of two DORMANT CERTIFICATES of a KEY the later one is WOKEN, if the KEY MEETS at all. */
    private static void sleepersMeet() {
        LateCopies x = on("05");
        x.set(0, 2);
        x.put(0, 0, 1);
        x.put(1, 0, 2);
        x.remove(0, 0, 1);
        x.remove(1, 0, 1);
        x.pass(3);
        item(x, 0, 0, 2, NONE, 3, 3, 1, 1, 2);
        item(x, 1, 0, 2, NONE, 4, 4, 2, 1, 2);
        due("ALIKE: they do not MEET", x.exchange(0, 1), 0);
        due("WOKEN", x.count(5), 0);
        x.put(0, 1, 1);
        due("RECENT ones alone MEET", x.exchange(0, 1), 1);
        due("WOKEN", x.count(5), 0);
        x.put(0, 2, 1);
        x.set(3, 0);
        due("all MEET", x.exchange(0, 1), 2);
        due("WOKEN", x.count(5), 1);
        item(x, 0, 0, 2, NONE, 4, 9, 2, 0, 0);
        item(x, 1, 0, 2, NONE, 4, 9, 2, 0, 2);
    }

    private static void sleeperMeetsItsWokenCopy() {
        LateCopies x = on("055");
        x.set(0, 2);
        x.put(0, 0, 1);
        x.exchange(0, 2);
        x.remove(0, 0, 2);
        x.exchange(0, 1);
        x.pass(3);
        due("WOKEN at 1", x.exchange(1, 2), 1);
        item(x, 0, 0, 2, NONE, 2, 2, 3, 1, 2);
        due("of like STAMPS the greater ACTIVATION", x.exchange(0, 1), 1);
        item(x, 0, 0, 2, NONE, 2, 5, 3, 0, 0);
        due("WOKEN once", x.count(5), 1);
    }

    private static void rumour() {
        at("12 rumour");
        LateCopies x = new LateCopies();
        due("rumour without a LINE", x.rumour(0, 1), UNKNOWN);
        read(x, "0123");
        due("rumour(-1, 0)", x.rumour(-1, 0), UNKNOWN);
        due("rumour(0, -1)", x.rumour(0, -1), UNKNOWN);
        due("rumour(4, 0)", x.rumour(4, 0), UNKNOWN);
        due("rumour(0, 4)", x.rumour(0, 4), UNKNOWN);
        due("rumour(1, 1)", x.rumour(1, 1), UNKNOWN);
        x.off(3, true);
        due("rumour(3, 0)", x.rumour(3, 0), STATE);
        due("rumour(0, 3)", x.rumour(0, 3), STATE);
        due("rumour(3, 3), UNKNOWN first", x.rumour(3, 3), UNKNOWN);
        due("rumour of nothing", x.rumour(0, 1), 0);
        x.put(0, 0, 1);
        x.put(0, 1, 2);
        x.put(1, 1, 3);
        x.put(1, 2, 4);
        x.set(2, 3);
        due("rumour(0, 1)", x.rumour(0, 1), 1);
        due("TRAFFIC", x.count(4), 2);
        value(x, 1, 0, 1, 1, 3);
        value(x, 0, 0, 1, 1, 2);
        value(x, 0, 1, 2, 2, 1);
        value(x, 1, 1, 3, 3, 2);
        nothing(x, 0, 2);
        due("rumour(0, 1) again", x.rumour(0, 1), 0);
        due("TRAFFIC", x.count(4), 4);
        value(x, 0, 0, 1, 1, 1);
        value(x, 0, 1, 2, 2, 0);
        due("rumour(0, 1): 1 is HOT no more", x.rumour(0, 1), 0);
        due("TRAFFIC", x.count(4), 5);
        value(x, 0, 0, 1, 1, 0);
        value(x, 0, 1, 2, 2, 0);
        due("none is HOT", x.rumour(0, 2), 0);
        due("TRAFFIC", x.count(4), 5);
        nothing(x, 2, 0);
        due("an older one gives way", x.rumour(1, 0), 2);
        value(x, 0, 1, 3, 3, 3);
        value(x, 0, 2, 4, 4, 3);
        value(x, 1, 0, 1, 1, 2);
        value(x, 1, 2, 4, 4, 2);
        LateCopies y = on("000000");
        y.put(5, 3, 1);
        due("the last SITE, the last KEY", y.rumour(5, 4), 1);
        due("back", y.rumour(4, 5), 0);
    }

    private static void rumourWakes() {
        LateCopies x = on("0159");
        x.set(0, 3);
        x.put(3, 0, 1);
        x.exchange(0, 3);
        x.remove(0, 0, 1);
        x.pass(4);
        due("a DORMANT one is not told, though it is HOT", x.rumour(0, 1), 0);
        nothing(x, 1, 0);
        due("TRAFFIC", x.count(4), 1);
        x.set(2, 1);
        due("an old VALUE is told", x.rumour(3, 0), 0);
        due("TRAFFIC", x.count(4), 2);
        due("WOKEN", x.count(5), 1);
        item(x, 0, 0, 2, NONE, 2, 6, 1, 0, 1);
        value(x, 3, 0, 1, 1, 1);
        due("told again: it is awake", x.rumour(3, 0), 0);
        due("WOKEN stays", x.count(5), 1);
        value(x, 3, 0, 1, 1, 0);
        due("the CERTIFICATE is told", x.rumour(0, 3), 1);
        item(x, 3, 0, 2, NONE, 2, 6, 1, 0, 1);
        x.put(1, 0, 4);
        x.pass(4);
        item(x, 0, 0, 2, NONE, 2, 6, 1, 1, 1);
        due("a NEWER VALUE is told to a sleeper", x.rumour(1, 0), 1);
        value(x, 0, 0, 4, 7, 1);
        due("WOKEN stays", x.count(5), 1);
        LateCopies y = on("055");
        y.set(0, 2);
        y.put(2, 0, 1);
        y.exchange(0, 2);
        y.remove(0, 0, 2);
        y.exchange(0, 1);
        y.pass(3);
        y.rumour(2, 1);
        due("to its own sleeping copy", y.rumour(1, 0), 1);
        item(y, 0, 0, 2, NONE, 2, 5, 3, 0, 2);
        item(y, 1, 0, 2, NONE, 2, 5, 3, 0, 2);
    }

    private static void has() {
        at("13 has");
        LateCopies x = new LateCopies();
        due("has without a LINE", x.has(0, 0, 0), UNKNOWN);
        read(x, "01");
        due("has(-1, 0, 0)", x.has(-1, 0, 0), UNKNOWN);
        due("has(2, 0, 0)", x.has(2, 0, 0), UNKNOWN);
        due("has(0, -1, 0)", x.has(0, -1, 0), UNKNOWN);
        due("has(0, 4, 0)", x.has(0, 4, 0), UNKNOWN);
        due("has(0, 4, 7), UNKNOWN first", x.has(0, 4, 7), UNKNOWN);
        due("has(0, 0, -1)", x.has(0, 0, -1), OUTSIDE);
        due("has(0, 0, 7)", x.has(0, 0, 7), OUTSIDE);
        nothing(x, 1, 3);
        x.put(1, 3, 0);
        value(x, 1, 3, 0, 1, 2);
        x.off(1, true);
        value(x, 1, 3, 0, 1, 2);
        x.off(1, false);
        x.remove(1, 3, 2);
        item(x, 1, 3, 2, NONE, 2, 2, 3, 0, 2);
        x.pass(10);
        due("DORMANT at SHORT", x.has(1, 3, 5), 0);
        x.pass(1);
        due("DORMANT above SHORT", x.has(1, 3, 5), 1);
    }

    private static void newest() {
        at("14 newest");
        LateCopies x = new LateCopies();
        due("newest without a LINE", x.newest(0, 0), UNKNOWN);
        read(x, "01");
        due("newest(2, 0)", x.newest(2, 0), UNKNOWN);
        due("newest(-1, 3), UNKNOWN first", x.newest(-1, 3), UNKNOWN);
        due("newest(0, 3)", x.newest(0, 3), OUTSIDE);
        due("newest(0, -1)", x.newest(0, -1), OUTSIDE);
        newestOf(x, 0, NONE, NONE, NONE);
        x.put(0, 2, 1);
        newestOf(x, 0, 2, 2, NONE);
        x.put(0, 1, 9);
        newestOf(x, 0, 1, 1, NONE);
        x.remove(0, 2, 1);
        newestOf(x, 0, 2, 1, 2);
        x.put(0, 3, 0);
        x.put(0, 0, 0);
        x.remove(0, 3, 2);
        newestOf(x, 0, 3, 0, 3);
        x.pass(11);
        newestOf(x, 0, 3, 0, 3);
        x.pass(40);
        newestOf(x, 0, 0, 0, NONE);
        newestOf(x, 1, NONE, NONE, NONE);
        read(x, "000000");
        newestOf(x, 5, NONE, NONE, NONE);
        x.put(5, 0, 1);
        x.put(5, 3, 1);
        newestOf(x, 5, 3, 3, NONE);
        x.put(1, 0, 1);
        newestOf(x, 0, NONE, NONE, NONE);
    }

    private static void newestOf(LateCopies x, int site, int any, int value, int certificate) {
        due("newest(" + site + ", 0)", x.newest(site, 0), any);
        due("newest(" + site + ", 1)", x.newest(site, 1), value);
        due("newest(" + site + ", 2)", x.newest(site, 2), certificate);
    }

    private static void alike() {
        at("15 alike");
        LateCopies x = new LateCopies();
        due("alike without a LINE", x.alike(0, 0), UNKNOWN);
        read(x, "055");
        due("alike(0, 3)", x.alike(0, 3), UNKNOWN);
        due("alike(-1, 0)", x.alike(-1, 0), UNKNOWN);
        due("alike(0, 1)", x.alike(0, 1), 1);
        due("alike(0, 0)", x.alike(0, 0), 1);
        x.put(0, 3, 1);
        due("alike(0, 1)", x.alike(0, 1), 0);
        due("alike(1, 0)", x.alike(1, 0), 0);
        due("alike(0, 0)", x.alike(0, 0), 1);
        x.exchange(0, 1);
        due("alike(0, 1)", x.alike(0, 1), 1);
        x.put(1, 3, 1);
        due("alike(0, 1), another STAMP", x.alike(0, 1), 0);
        x.exchange(0, 1);
        x.exchange(0, 2);
        x.set(0, 2);
        x.remove(0, 3, 2);
        due("alike(0, 1), a CERTIFICATE and a VALUE", x.alike(0, 1), 0);
        x.exchange(0, 1);
        due("alike(0, 1), CERTIFICATES", x.alike(0, 1), 1);
        x.pass(3);
        due("DORMANT ones", x.alike(0, 1), 1);
        due("a DORMANT one and a VALUE", x.alike(0, 2), 0);
        x.exchange(1, 2);
        due("a DORMANT one and one that was WOKEN", x.alike(0, 1), 0);
        due("WOKEN ones", x.alike(1, 2), 1);
        x.pass(3);
        due("a DORMANT one and one that is GONE", x.alike(1, 2), 1);
        x.set(0, 50);
        due("DORMANT no more, and nothing", x.alike(1, 2), 0);
        due("of like STAMPS another ACTIVATION", x.alike(0, 1), 0);
        x.off(0, true);
        due("alike(0, 0), OFF", x.alike(0, 0), 1);
    }

    private static void risen() {
        at("16 risen");
        LateCopies x = new LateCopies();
        due("risen(0) without a LINE", x.risen(0), 0);
        due("risen(4)", x.risen(4), UNKNOWN);
        due("risen(-1)", x.risen(-1), UNKNOWN);
        read(x, "0159");
        x.put(0, 1, 1);
        x.exchange(0, 2);
        x.exchange(0, 3);
        due("risen(1), none removed", x.risen(1), 0);
        x.remove(0, 1, 1);
        due("risen(1)", x.risen(1), 12);
        due("risen(0)", x.risen(0), 0);
        x.off(3, true);
        due("risen(1), OFF or not", x.risen(1), 12);
        x.exchange(0, 2);
        due("risen(1)", x.risen(1), 8);
        x.pass(51);
        due("GONE", x.count(6), 2);
        x.off(3, false);
        x.exchange(3, 1);
        due("it rises again", x.risen(1), 10);
        x.put(0, 1, 4);
        due("a later VALUE is none", x.risen(1), 10);
        x.remove(0, 1, 1);
        x.put(1, 1, 4);
        due("the latest CERTIFICATE", x.risen(1), 8);
        x.put(0, 1, 2);
        x.remove(0, 1, 1);
        due("of the latest CERTIFICATE", x.risen(1), 10);
        x.put(1, 1, 3);
        x.remove(1, 1, 1);
        x.put(0, 1, 3);
        x.put(2, 1, 3);
        x.remove(2, 1, 1);
        due("SITE 0, too", x.risen(1), 9);
        read(x, "000000");
        for (int site = 0; site < 6; site++) {
            x.put(site, 3, site);
        }
        x.remove(5, 3, 1);
        due("six SITES", x.risen(3), 31);
        x.put(5, 3, 1);
        due("the last SITE", x.risen(3), 31);
        x.remove(4, 3, 1);
        due("the last SITE", x.risen(3), 47);
        read(x, "01");
        x.put(0, 1, 2);
        due("of this LINE", x.risen(1), 0);
    }

    private static void partner() {
        at("17 partner");
        LateCopies x = new LateCopies();
        due("partner without a LINE", x.partner(0, 0, 0), UNKNOWN);
        due("partner without a LINE, UNKNOWN first", x.partner(0, -1, 0), UNKNOWN);
        read(x, "0159");
        due("partner(4, 0, 0)", x.partner(4, 0, 0), UNKNOWN);
        due("partner(-1, 0, 0)", x.partner(-1, 0, 0), UNKNOWN);
        due("partner(0, -1, 0)", x.partner(0, -1, 0), OUTSIDE);
        due("partner(0, least, 1)", x.partner(0, Integer.MIN_VALUE, 1), OUTSIDE);
        due("partner(0, 0, -1)", x.partner(0, 0, -1), OUTSIDE);
        due("partner(0, 0, 2)", x.partner(0, 0, 2), OUTSIDE);
        due("SEED of 0", x.partner(0, 0, 1), 12345);
        due("SEED of 1", x.partner(0, 1, 1), 1103527590);
        due("SEED of 5", x.partner(0, 5, 1), 1222621274);
        due("SEED of the most", x.partner(0, Integer.MAX_VALUE, 1),
            nextSeed(Integer.MAX_VALUE));
        due("DRAW 0", x.partner(0, 0, 0), 1);
        x.off(1, true);
        x.off(2, true);
        due("one alone", x.partner(0, 5, 0), 3);
        due("of a SITE that is OFF", x.partner(1, 0, 0), 0);
        x.off(3, true);
        due("none", x.partner(0, 5, 0), NONE);
        due("none, no DRAW", x.partner(0, 5, 1), 5);
        due("of another one", x.partner(1, 5, 0), 0);
    }

    /** Many SEEDS over several LINES: the partner found by counting up WEIGHTS over a ranking written out. */
    private static void partnerByWeights() {
        rankingIs("012345", 0, 0, new int[] {1, 2, 3, 4, 5});
        rankingIs("012345", 3, 0, new int[] {2, 4, 1, 5, 0});
        rankingIs("000000", 2, 0, new int[] {0, 1, 3, 4, 5});
        rankingIs("113377", 2, 0, new int[] {3, 0, 1, 4, 5});
        rankingIs("149", 1, 0, new int[] {0, 2});
        rankingIs("149", 2, 0, new int[] {1, 0});
        rankingIs("012345", 3, 20, new int[] {1, 5, 0});
        rankingIs("012345", 3, 8, new int[] {2, 4, 1, 5, 0});
        rankingIs("19", 1, 0, new int[] {0});
    }

    private static void rankingIs(String text, int site, int offBits, int[] ranking) {
        LateCopies x = on(text);
        offOnly(x, offBits);
        int total = 0;
        for (int rank = 0; rank < ranking.length; rank++) {
            total += WEIGHTS[rank];
        }
        long seed = 1;
        for (int n = 0; n < 150; n++) {
            long next = nextSeed(seed);
            long left = next / 65536 % total;
            int rank = 0;
            while (left >= WEIGHTS[rank]) {
                left -= WEIGHTS[rank];
                rank++;
            }
            due("partner(" + site + ", " + seed + ", 0) of " + text, x.partner(site, (int) seed, 0), ranking[rank]);
            due("partner(" + site + ", " + seed + ", 1) of " + text, x.partner(site, (int) seed, 1), next);
            seed = next;
        }
    }

    private static void settle() {
        at("18 settle");
        LateCopies x = new LateCopies();
        due("settle without a LINE", x.settle(0, false, 0), STATE);
        due("settle(-1) without a LINE, OUTSIDE first", x.settle(-1, false, 0), OUTSIDE);
        due("settle(.., 3) without a LINE, OUTSIDE first", x.settle(0, false, 3), OUTSIDE);
        read(x, "0159");
        due("settle(-1, true, 0)", x.settle(-1, true, 0), OUTSIDE);
        due("settle(0, true, -1)", x.settle(0, true, -1), OUTSIDE);
        due("settle(0, true, 3)", x.settle(0, true, 3), OUTSIDE);
        outcome(x, 5, false, 0, 0, 5);
        outcome(x, 5, true, 0, 0, 5);
        x.put(3, 0, 1);
        x.off(0, true);
        x.off(1, true);
        x.off(2, true);
        outcome(x, 5, false, 0, 0, 5);
        x.off(3, true);
        outcome(x, 5, true, 0, 0, 5);
        x.off(2, false);
        x.off(3, false);
        outcome(x, 5, false, 1, 3, seedAfter(5, 2));
        // SITE 2 has its turn first and nothing to tell; then SITE 3 tells the one ITEM.
        outcome(x, 5, true, 1, 1, seedAfter(5, 2));
        settleOfTwo();
        settleLate();
    }

    private static void settleOfTwo() {
        LateCopies x = on("05");
        x.put(0, 0, 1);
        outcome(x, 7, false, 1, 3, seedAfter(7, 2));
        outcome(x, 7, true, 1, 2, seedAfter(7, 2));
        LateCopies y = on("055");
        y.put(0, 0, 1);
        y.exchange(0, 1);
        y.rumour(0, 1);
        y.rumour(0, 1);
        due("HEAT", y.has(0, 0, 6), 0);
        outcome(y, 7, true, NONE, 0, seedAfter(7, 120));
        LateCopies z = on("05");
        z.set(0, 1);
        z.set(1, 0);
        z.put(0, 0, 1);
        z.exchange(0, 1);
        z.remove(0, 0, 1);
        z.rumour(1, 0);
        due("no HEAT came by MEETING", z.count(4), 1);
        outcome(z, 9, true, 1, 2, seedAfter(9, 2));
        z.off(1, true);
        outcome(z, 9, true, 0, 0, 9);
    }

    private static void settleAsPlayed() {
        String[] texts = {"0159", "113377", "000000", "0125", "019", "077889"};
        for (String text : texts) {
            for (int seed = 0; seed < 12; seed++) {
                asPlayed(text, seed, seed % 2 == 1, 4);
            }
        }
    }

    /** NOW goes on in a ROUND: a CERTIFICATE may be GONE by it, also above 9999. */
    private static void settleLate() {
        LateCopies x = on("059");
        x.put(0, 0, 1);
        passTo(x, 9998);
        x.remove(0, 0, 3);
        due("NOW", x.count(2), 9999);
        due("ROUNDS above 9999", x.settle(3, false, 0) > 0 ? 1 : 0, 1);
        LateCopies y = on("05");
        y.set(0, 1);
        y.put(0, 0, 1);
        passTo(y, 9997);
        y.remove(0, 0, 1);
        y.pass(1);
        due("alike(0, 1)", y.alike(0, 1), 0);
        outcome(y, 3, false, 1, 0, seedAfter(3, 2));
        outcome(y, 3, true, 1, 0, seedAfter(3, 2));
        due("it is there still", y.has(0, 0, 0), 2);
        due("NOW stays", y.count(2), 9999);
    }

    private static void settleChangesNothing() {
        LateCopies x = on("0159");
        x.set(0, 2);
        x.put(0, 0, 1);
        x.put(3, 0, 2);
        x.put(1, 2, 3);
        x.exchange(1, 3);
        x.remove(1, 2, 2);
        x.pass(2);
        long before = x.digest();
        for (int seed = 0; seed < 20; seed++) {
            x.settle(seed, seed % 2 == 0, seed % 3);
        }
        due("digest() after settle()", x.digest(), before);
        due("NOW", x.count(2), 6);
        due("TRAFFIC", x.count(4), 2);
        value(x, 0, 0, 1, 1, 2);
        value(x, 3, 0, 2, 2, 2);
        item(x, 1, 2, 2, NONE, 4, 4, 3, 0, 2);
        nothing(x, 2, 0);
    }

    private static void count() {
        at("19 count");
        LateCopies x = on("0159");
        due("count(-1)", x.count(-1), OUTSIDE);
        due("count(12)", x.count(12), OUTSIDE);
        due("count(most)", x.count(Integer.MAX_VALUE), OUTSIDE);
        x.set(0, 2);
        x.set(1, 3);
        x.set(2, 3);
        x.set(3, 4);
        x.put(3, 0, 1);
        x.exchange(0, 3);
        x.remove(0, 0, 2);
        x.exchange(0, 2);
        x.pass(3);
        x.exchange(0, 3);
        x.off(1, true);
        x.off(3, true);
        write(x, "ab");
        counts(x, 0, 2, 4, 5, 10, 3, 1, 1, 2, 3, 3, 4, 1);
        read(x, "99");
        due("LINES read", x.count(11), 2);
    }

    private static void digest() {
        at("20 digest");
        LateCopies x = new LateCopies();
        due("digest() of a new object", x.digest(), digestByCalls(x, ""));
        write(x, "0z");
        due("digest() with letters", x.digest(), digestByCalls(x, "0z"));
        read(x, "0159");
        due("digest() of a new LINE", x.digest(), digestByCalls(x, ""));
        digestOfMuch();
    }

    private static void digestOfMuch() {
        LateCopies x = on("0159");
        x.set(0, 2);
        x.put(3, 0, 1);
        x.put(2, 1, 5);
        x.exchange(0, 3);
        x.remove(0, 0, 2);
        x.exchange(0, 2);
        x.pass(3);
        write(x, "1 ~");
        x.off(1, true);
        due("digest() of much", x.digest(), digestByCalls(x, "1 ~"));
        due("digest() again", x.digest(), digestByCalls(x, "1 ~"));
    }
}
