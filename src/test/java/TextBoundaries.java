/** Promises 1 to 5: a new object, and texts. */
final class TextBoundaries extends Boundaries {
    private TextBoundaries() {
    }

    static void all() {
        noLine();
        firstLimits();
        calls512();
        letterComes();
        letterOutside();
        letterFull();
        blankTells();
        faultPlace();
        faultNone();
        twoToSixDigits();
        sitesByNumber();
        noLessThanTheOneAhead();
        lineIsRead();
        anotherIsGone();
        setStays();
        howManySites();
        pageIsEmptyThen();
        noneIsState();
        nowIsZero();
    }

    private static void noLine() {
        sentence(1, "No LINE");
        LateCopies x = new LateCopies();
        counts(x, 0, 0, 0, 0, 0, 0, 0, 0);
        due("count(11)", x.count(11), 0);
        due("blank()", x.blank(), 0);
        due("fault()", x.fault(), 0);
        due("line()", x.line(), STATE);
        due("put(0, 0, 0)", x.put(0, 0, 0), UNKNOWN);
        due("remove(0, 0, 1)", x.remove(0, 0, 1), UNKNOWN);
        due("pass(1)", x.pass(1), STATE);
        due("off(0, true)", x.off(0, true), UNKNOWN);
        due("exchange(0, 1)", x.exchange(0, 1), UNKNOWN);
        due("rumour(0, 1)", x.rumour(0, 1), UNKNOWN);
        due("has(0, 0, 0)", x.has(0, 0, 0), UNKNOWN);
        due("newest(0, 0)", x.newest(0, 0), UNKNOWN);
        due("alike(0, 0)", x.alike(0, 0), UNKNOWN);
        for (int key = 0; key < KEYS; key++) {
            due("risen(" + key + ")", x.risen(key), 0);
        }
        due("partner(0, 0, 0)", x.partner(0, 0, 0), UNKNOWN);
        due("settle(0, false, 0)", x.settle(0, false, 0), STATE);
        due("set(3, 5) needs no LINE", x.set(3, 5), 5);
    }

    private static void firstLimits() {
        sentence(1, "SHORT is 10, LONG 40, INTEREST 2, RECENT 5.");
        counts(new LateCopies(), 7, 10, 40, 2, 5);
        LateCopies x = on("05");
        x.put(0, 0, 1);
        due("HEAT", x.has(0, 0, 6), 2);
        x.exchange(0, 1);
        x.pass(4);
        x.exchange(0, 1);
        due("TRAFFIC of an ITEM that is RECENT", x.count(4), 3);
        x.pass(1);
        x.exchange(0, 1);
        due("TRAFFIC of one that is not RECENT", x.count(4), 3);
        x.remove(0, 0, 1);
        x.pass(10);
        due("DORMANT at 10", x.has(0, 0, 5), 0);
        x.pass(1);
        due("DORMANT at 11", x.has(0, 0, 5), 1);
        due("pass(39)", x.pass(39), 0);
        due("pass(1)", x.pass(1), 1);
    }

    private static void calls512() {
        sentence(1, "An object is used for at most 512 calls after it has been made");
        LateCopies x = new LateCopies();
        for (int n = 1; n <= 170; n++) {
            x.letter('0');
            x.letter('9');
            due("line() again", x.line(), 2);
        }
        due("call 511", x.put(1, 3, 9), 1);
        due("call 512", x.count(11), 170);
        LateCopies y = on("000000");
        y.put(0, 0, 1);
        y.rumour(0, 1);
        y.rumour(0, 1);
        y.rumour(0, 1);
        y.rumour(1, 0);
        y.rumour(1, 0);
        long first = y.digest();
        for (int n = 16; n < 512; n++) {
            due("digest(), 40 ROUNDS each time", y.digest(), first);
        }
    }

    private static void letterComes() {
        sentence(2, "A letter comes behind THE PAGE, told by its code: how many THE PAGE has.");
        LateCopies x = new LateCopies();
        for (int n = 1; n <= 6; n++) {
            due("letter()", x.letter('0' + n), n);
            due("fault()", x.fault(), n);
        }
        due("the letters in their order", x.line(), 6);
        x.letter('2');
        due("letter('1')", x.letter('1'), 2);
        due("the last one is behind", x.fault(), 1);
        LateCopies y = new LateCopies();
        due("letter('~')", y.letter('~'), 1);
        due("letter(' ')", y.letter(' '), 2);
        due("digest() tells codes by their places", y.digest(), digestByCalls(y, "~ "));
    }

    private static void letterOutside() {
        sentence(2, "OUTSIDE: code (32 to 126)");
        LateCopies x = new LateCopies();
        x.letter('5');
        int[] wrong = {31, 127, 128, 0, -1, 9, 10, 13, -32, -48, 48 + 256, 48 - 256, 48 + 65536, LEAST, MOST};
        for (int code : wrong) {
            due("letter(" + code + ")", x.letter(code), OUTSIDE);
            due("THE PAGE stays", x.count(0), 1);
        }
        LateCopies y = new LateCopies();
        for (int code = 32; code <= 126; code++) {
            due("letter(" + code + ")", y.letter(code), 1);
            due("blank()", y.blank(), 1);
        }
    }

    private static void letterFull() {
        sentence(2, "FULL: above 6.");
        LateCopies x = new LateCopies();
        write(x, "12345");
        due("letter 6", x.letter('6'), 6);
        due("letter 7", x.letter('9'), FULL);
        due("letter 7, a blank", x.letter(32), FULL);
        due("letter 7, a tilde", x.letter(126), FULL);
        due("letter 7, no code: OUTSIDE comes first", x.letter(31), OUTSIDE);
        due("count(0)", x.count(0), 6);
        due("THE PAGE stays", x.digest(), digestByCalls(x, "123456"));
        due("line()", x.line(), 6);
        due("a letter behind line()", x.letter('1'), 1);
        write(x, "xxxxxx");
        due("letter 7 with a LINE", x.letter('x'), FULL);
        x.blank();
        due("a letter behind blank()", x.letter('x'), 1);
    }

    private static void blankTells() {
        sentence(3, "THE PAGE is empty: how many letters it had.");
        LateCopies x = new LateCopies();
        due("blank() of an empty PAGE", x.blank(), 0);
        for (int n = 1; n <= 6; n++) {
            for (int i = 0; i < n; i++) {
                x.letter('9' - i);
            }
            due("blank()", x.blank(), n);
            due("count(0)", x.count(0), 0);
            due("fault()", x.fault(), 0);
            due("line()", x.line(), STATE);
            due("blank() again", x.blank(), 0);
        }
        write(x, "999999");
        x.letter('9');
        due("blank() behind a letter that was refused", x.blank(), 6);
        write(x, "98");
        due("line() of 98", x.line(), STATE);
        due("blank() behind a LINE that was refused", x.blank(), 2);
        read(x, "12");
        due("blank() behind line()", x.blank(), 0);
        x.put(1, 0, 1);
        write(x, "77");
        due("blank()", x.blank(), 2);
        due("the LINE stays", x.count(1), 2);
        value(x, 1, 0, 1, 1, 2);
    }

    private static void faultPlace() {
        sentence(4, "The place (from 0) of the first letter of THE PAGE that no LINE has there, behind those ahead of it");
        String[] texts = {"a", " ", "/", ":", "a1", "1a", "1/", "1:", "10", "98", "1x0", "x10", "210", "2x1", "121",
            "1211", "12 3", "123x45", "12345x", "123454", "987654", "0000/0", "99999:", "00 ~00", "0123 5", "10x", "5545"};
        int[] places = {0, 0, 0, 0, 0, 1, 1, 1, 1, 1, 1, 0, 1, 1, 2,
            2, 2, 3, 5, 5, 1, 4, 5, 2, 4, 1, 2};
        for (int i = 0; i < texts.length; i++) {
            LateCopies x = new LateCopies();
            write(x, texts[i]);
            due("fault() of '" + texts[i] + "'", x.fault(), places[i]);
            due("fault() again", x.fault(), places[i]);
            due("count(0) stays", x.count(0), texts[i].length());
        }
        for (int code = 32; code <= 126; code++) {
            LateCopies x = new LateCopies();
            x.letter(code);
            due("fault() of letter " + code, x.fault(), code >= '0' && code <= '9' ? 1 : 0);
            x.blank();
            x.letter('5');
            x.letter(code);
            due("fault() of 5 and letter " + code, x.fault(), code >= '5' && code <= '9' ? 2 : 1);
        }
    }

    private static void faultNone() {
        sentence(4, "how many letters it has, if there is none.");
        String[] texts = {"", "0", "9", "00", "09", "99", "000", "01239", "000000", "012345", "999999"};
        for (String text : texts) {
            LateCopies x = new LateCopies();
            write(x, text);
            due("fault() of '" + text + "'", x.fault(), text.length());
        }
        LateCopies x = on("05");
        due("fault() behind line()", x.fault(), 0);
    }

    private static void twoToSixDigits() {
        sentence(5, "A LINE is a text: two to six digits");
        String[] few = {"", "0", "9"};
        for (String text : few) {
            LateCopies x = new LateCopies();
            write(x, text);
            due("line() of '" + text + "'", x.line(), STATE);
        }
        String[] lines = {"00", "09", "99", "059", "0599", "05999", "059999", "000000", "999999"};
        for (String text : lines) {
            LateCopies x = new LateCopies();
            write(x, text);
            due("line() of '" + text + "'", x.line(), text.length());
        }
        for (int code = 32; code <= 126; code++) {
            boolean isDigit = code >= '0' && code <= '9';
            LateCopies x = new LateCopies();
            x.letter(code);
            x.letter(code);
            due("line() of letter " + code + " twice", x.line(), isDigit ? 2 : STATE);
            x.blank();
            x.letter('0');
            x.letter(code);
            due("line() of 0 and letter " + code, x.line(), isDigit ? 2 : STATE);
            x.blank();
            x.letter(code);
            x.letter('9');
            due("line() of letter " + code + " and 9", x.line(), isDigit ? 2 : STATE);
        }
    }

    private static void sitesByNumber() {
        sentence(5, "the POSITIONS of SITES (numbered from 0)");
        String text = "024689";
        for (int length = 2; length <= 6; length++) {
            LateCopies x = on(text.substring(0, length));
            for (int site = 0; site < length; site++) {
                due("off(" + site + ", false)", x.off(site, false), 0);
            }
            due("off(-1, true)", x.off(-1, true), UNKNOWN);
            due("off(" + length + ", true)", x.off(length, true), UNKNOWN);
        }
        LateCopies x = on("0178");
        int[] nearest = {1, 0, 3, 2};
        for (int site = 0; site < 4; site++) {
            // SEED 0 draws 0: the nearest one.
            due("the SITE nearest to " + site, x.partner(site, 0, 0), nearest[site]);
        }
        LateCopies y = on("039");
        due("9 is nearer to 3 than to 0", y.partner(2, 0, 0), 1);
        due("0 is nearer to 3 than to 9", y.partner(1, 0, 0), 0);
    }

    private static void noLessThanTheOneAhead() {
        sentence(5, "each no less than the one ahead.");
        for (int a = 0; a <= 9; a++) {
            LateCopies x = new LateCopies();
            for (int b = 0; b <= 9; b++) {
                x.blank();
                x.letter('0' + a);
                x.letter('0' + b);
                due("line() of " + a + b, x.line(), b < a ? STATE : 2);
            }
        }
        String[] none = {"010", "121", "0110", "12343", "123454", "999998", "100000", "001213"};
        for (String text : none) {
            LateCopies x = new LateCopies();
            write(x, text);
            due("line() of " + text, x.line(), STATE);
        }
        String[] lines = {"011", "1122", "55555", "001122", "444445", "899999"};
        for (String text : lines) {
            LateCopies x = new LateCopies();
            write(x, text);
            due("line() of " + text, x.line(), text.length());
        }
    }

    private static void lineIsRead() {
        sentence(5, "THE PAGE is read as a LINE");
        LateCopies x = new LateCopies();
        write(x, "05");
        due("line()", x.line(), 2);
        due("SITES", x.count(1), 2);
        due("put(1, 0, 0)", x.put(1, 0, 0), 1);
        due("LINES read", x.count(11), 1);
        write(x, "059");
        due("no LINE before line()", x.count(1), 2);
        due("line()", x.line(), 3);
        due("SITES", x.count(1), 3);
    }

    private static void anotherIsGone() {
        sentence(5, "(another one is gone, with all that was there");
        LateCopies x = on("012345");
        x.set(0, 1);
        for (int site = 0; site < 6; site++) {
            x.put(site, 3, site);
        }
        x.remove(5, 3, 1);
        x.exchange(0, 5);
        x.pass(2);
        x.exchange(5, 4);
        offOnly(x, 63);
        counts(x, 1, 6, 9, 63, 3, 1, 1);
        due("risen(3)", x.risen(3), 14);
        read(x, "99");
        counts(x, 0, 0, 2, 0, 0, 0, 0, 0);
        due("SITE 2 is gone", x.has(2, 3, 0), UNKNOWN);
        read(x, "000000");
        counts(x, 0, 0, 6, 0, 0, 0, 0, 0);
        for (int site = 0; site < 6; site++) {
            nothing(x, site, 3);
            due("alike(0, " + site + ")", x.alike(0, site), 1);
        }
        due("put(5, 3, 0)", x.put(5, 3, 0), 1);
        due("risen(3)", x.risen(3), 0);
        due("POSITIONS are those of the new LINE", x.partner(5, 0, 0), 0);
        due("LINES read", x.count(11), 3);
        passTo(x, LATEST);
        due("put at 9999", x.put(0, 0, 0), FULL);
        read(x, "05");
        due("put on a new LINE", x.put(0, 0, 0), 1);
    }

    private static void setStays() {
        sentence(5, "what set() told stays)");
        LateCopies x = new LateCopies();
        int[] told = {50, 0, 3, 0};
        for (int what = 0; what < 4; what++) {
            x.set(what, told[what]);
        }
        read(x, "05");
        counts(x, 7, told);
        x.put(0, 0, 1);
        due("HEAT", x.has(0, 0, 6), 3);
        for (int what = 0; what < 4; what++) {
            x.set(what, what == 0 || what == 2 ? 1 : 200 / (1 + what));
        }
        counts(x, 7, 1, 100, 1, 50);
        read(x, "055");
        counts(x, 7, 1, 100, 1, 50);
        x.put(0, 0, 1);
        due("HEAT", x.has(0, 0, 6), 1);
    }

    private static void howManySites() {
        sentence(5, "how many SITES");
        String text = "013579";
        LateCopies x = new LateCopies();
        for (int length = 2; length <= 6; length++) {
            write(x, text.substring(0, length));
            due("line()", x.line(), length);
            due("count(1)", x.count(1), length);
        }
    }

    private static void pageIsEmptyThen() {
        sentence(5, "THE PAGE is empty then.");
        LateCopies x = new LateCopies();
        write(x, "013579");
        x.line();
        due("count(0)", x.count(0), 0);
        due("fault()", x.fault(), 0);
        due("line() again", x.line(), STATE);
        due("the LINE stays", x.count(1), 6);
        due("a letter is the first one", x.letter('9'), 1);
        due("blank()", x.blank(), 1);
    }

    private static void noneIsState() {
        sentence(5, "STATE: it is none.");
        String[] none = {"", "5", "x", "54", "5x", "x5", " 55", "55 ", "012340", "01234x"};
        for (String text : none) {
            LateCopies x = new LateCopies();
            write(x, text);
            due("line() of '" + text + "'", x.line(), STATE);
            due("THE PAGE stays", x.digest(), digestByCalls(x, text));
            due("no LINE", x.count(1), 0);
            due("none is read", x.count(11), 0);
            read(x, "059");
            x.put(2, 1, 4);
            x.off(1, true);
            write(x, text);
            due("line() of '" + text + "' with a LINE", x.line(), STATE);
            due("count(0)", x.count(0), text.length());
            counts(x, 1, 3, 1, 2);
            value(x, 2, 1, 4, 1, 2);
            due("one is read", x.count(11), 1);
        }
    }

    private static void nowIsZero() {
        sentence(5, "NOW is 0, no SITE has anything, none is OFF, when a LINE is read.");
        LateCopies x = new LateCopies();
        for (int n = 0; n < 2; n++) {
            read(x, "012345");
            due("NOW", x.count(2), 0);
            due("OFF", x.count(3), 0);
            for (int site = 0; site < 6; site++) {
                for (int key = 0; key < KEYS; key++) {
                    due("has(" + site + ", " + key + ", 0)", x.has(site, key, 0), 0);
                }
                due("newest(" + site + ", 0)", x.newest(site, 0), NONE);
                due("off(" + site + ", true)", x.off(site, true), 0);
                x.off(site, false);
                for (int key = 0; key < KEYS; key++) {
                    due("put(" + site + ", " + key + ", 5)", x.put(site, key, 5), KEYS * site + key + 1);
                }
            }
            for (int key = 0; key < KEYS; key++) {
                due("risen(" + key + ")", x.risen(key), 0);
                x.remove(key + 1, key, 3);
            }
            offOnly(x, 63);
        }
    }
}
