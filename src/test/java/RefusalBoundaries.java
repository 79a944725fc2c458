/** Refusals, over all calls: which comes first, and that they change nothing. */
final class RefusalBoundaries extends Boundaries {
    private static final int[] WRONG = {-1, 6, 77, LEAST, MOST};

    private RefusalBoundaries() {
    }

    static void all() {
        firstAsTold();
        theirNumbers();
        changeNothing();
        changeNothingWithoutLine();
    }

    private static void firstAsTold() {
        sentence(8, "Refusals, of several the first as told by each call:");
        LateCopies x = new LateCopies();
        write(x, "000000");
        due("letter: OUTSIDE, FULL", x.letter(127), OUTSIDE);
        x.blank();
        due("pass: OUTSIDE, STATE", x.pass(301), OUTSIDE);
        due("settle: OUTSIDE, STATE", x.settle(-1, true, 0), OUTSIDE);
        due("settle: OUTSIDE, STATE", x.settle(0, true, 3), OUTSIDE);
        due("put without a LINE: UNKNOWN, OUTSIDE", x.put(0, 0, 10), UNKNOWN);
        due("remove without a LINE: UNKNOWN, OUTSIDE", x.remove(0, 0, 4), UNKNOWN);
        due("has without a LINE: UNKNOWN, OUTSIDE", x.has(0, 0, 7), UNKNOWN);
        due("newest without a LINE: UNKNOWN, OUTSIDE", x.newest(0, 3), UNKNOWN);
        due("partner without a LINE: UNKNOWN, OUTSIDE", x.partner(0, -1, 2), UNKNOWN);
        read(x, "05");
        x.put(0, 0, 1);
        x.put(1, 0, 1);
        passTo(x, LATEST);
        x.off(1, true);
        due("put: UNKNOWN, OUTSIDE", x.put(0, 4, 10), UNKNOWN);
        due("put: UNKNOWN, STATE", x.put(1, 4, 0), UNKNOWN);
        due("put: UNKNOWN, FULL", x.put(2, 0, 0), UNKNOWN);
        due("put: OUTSIDE, STATE, FULL", x.put(1, 0, 10), OUTSIDE);
        due("put: OUTSIDE, FULL", x.put(0, 0, -1), OUTSIDE);
        due("put: STATE, FULL", x.put(1, 0, 0), STATE);
        due("put: FULL", x.put(0, 0, 0), FULL);
        due("remove: UNKNOWN, OUTSIDE", x.remove(2, 0, 0), UNKNOWN);
        due("remove: UNKNOWN, STATE", x.remove(1, -1, 1), UNKNOWN);
        due("remove: UNKNOWN, FULL", x.remove(0, 4, 1), UNKNOWN);
        due("remove: OUTSIDE, STATE for OFF", x.remove(1, 0, 4), OUTSIDE);
        due("remove: OUTSIDE, STATE for no VALUE", x.remove(0, 1, 0), OUTSIDE);
        due("remove: OUTSIDE, FULL", x.remove(0, 0, 4), OUTSIDE);
        due("remove: STATE for OFF, FULL", x.remove(1, 0, 1), STATE);
        due("remove: STATE for no VALUE, FULL", x.remove(0, 1, 1), STATE);
        due("remove: FULL", x.remove(0, 0, 1), FULL);
        due("pass: OUTSIDE, FULL", x.pass(0), OUTSIDE);
        due("pass: OUTSIDE, FULL", x.pass(MOST), OUTSIDE);
        due("pass: FULL", x.pass(1), FULL);
        due("exchange: UNKNOWN, STATE", x.exchange(1, 2), UNKNOWN);
        due("exchange: UNKNOWN for the same one, STATE", x.exchange(1, 1), UNKNOWN);
        due("exchange: STATE", x.exchange(1, 0), STATE);
        due("rumour: UNKNOWN, STATE", x.rumour(-1, 1), UNKNOWN);
        due("rumour: UNKNOWN for the same one, STATE", x.rumour(1, 1), UNKNOWN);
        due("rumour: STATE", x.rumour(0, 1), STATE);
        due("has: UNKNOWN, OUTSIDE", x.has(0, 4, 7), UNKNOWN);
        due("newest: UNKNOWN, OUTSIDE", x.newest(2, -1), UNKNOWN);
        due("partner: UNKNOWN, OUTSIDE", x.partner(2, -1, 0), UNKNOWN);
    }

    private static void theirNumbers() {
        sentence(7, "UNKNOWN (a number names nothing), OUTSIDE (it is not as told), STATE (as told), FULL;");
        due("NONE", LateCopies.NONE, -1);
        due("UNKNOWN", LateCopies.UNKNOWN, -1001);
        due("OUTSIDE", LateCopies.OUTSIDE, -1002);
        due("STATE", LateCopies.STATE, -1003);
        due("FULL", LateCopies.FULL, -1004);
        LateCopies x = on("05");
        due("UNKNOWN", x.put(2, 0, 0), LateCopies.UNKNOWN);
        due("OUTSIDE", x.put(0, 0, 10), LateCopies.OUTSIDE);
        x.off(0, true);
        due("STATE", x.put(0, 0, 0), LateCopies.STATE);
        passTo(x, LATEST);
        due("FULL", x.put(1, 0, 0), LateCopies.FULL);
    }

    private static void changeNothing() {
        sentence(11, "they change nothing.");
        LateCopies x = on("0159");
        passTo(x, 9980);
        x.put(0, 0, 1);
        x.put(3, 0, 2);
        x.put(1, 1, 3);
        x.exchange(1, 3);
        x.remove(1, 1, 2);
        x.put(2, 2, 4);
        x.exchange(1, 0);
        x.put(2, 3, 5);
        passTo(x, LATEST);
        x.off(3, true);
        write(x, "54321x");
        long before = x.digest();
        due("line() of no LINE", x.line(), STATE);
        due("letter 7", x.letter('0'), FULL);
        for (int wrong : WRONG) {
            refusedBy(x, wrong);
            due("nothing changes by " + wrong, x.digest(), before);
        }
        due("put(3, 0, 1)", x.put(3, 0, 1), STATE);
        due("put(0, 0, 1)", x.put(0, 0, 1), FULL);
        due("remove(3, 0, 1)", x.remove(3, 0, 1), STATE);
        due("remove(1, 1, 1)", x.remove(1, 1, 1), STATE);
        due("remove(0, 0, 1)", x.remove(0, 0, 1), FULL);
        due("pass(1)", x.pass(1), FULL);
        for (int other = 0; other < 3; other++) {
            due("exchange(" + other + ", 3)", x.exchange(other, 3), STATE);
            due("exchange(3, " + other + ")", x.exchange(3, other), STATE);
            due("rumour(" + other + ", 3)", x.rumour(other, 3), STATE);
            due("rumour(3, " + other + ")", x.rumour(3, other), STATE);
            due("exchange with itself", x.exchange(other, other), UNKNOWN);
            due("rumour to itself", x.rumour(other, other), UNKNOWN);
        }
        due("nothing changes", x.digest(), before);
        due("as the calls tell it", x.digest(), digestByCalls(x, "54321x"));
    }

    /** Each call with one argument that is wrong wherever it stands, the others right. */
    private static void refusedBy(LateCopies x, int wrong) {
        due("letter", x.letter(wrong == 77 ? 127 : wrong), OUTSIDE);
        due("set what", x.set(wrong, 1), OUTSIDE);
        due("set SHORT", x.set(0, wrong == 6 ? 51 : wrong), OUTSIDE);
        due("set LONG", x.set(1, wrong == 6 || wrong == 77 ? 201 : wrong), OUTSIDE);
        due("set INTEREST", x.set(2, wrong), OUTSIDE);
        due("set RECENT", x.set(3, wrong == 6 ? 51 : wrong), OUTSIDE);
        due("put site", x.put(wrong, 0, 0), UNKNOWN);
        due("put key", x.put(0, wrong, 0), UNKNOWN);
        due("put v", x.put(0, 0, wrong == 6 ? 10 : wrong), OUTSIDE);
        due("remove site", x.remove(wrong, 0, 1), UNKNOWN);
        due("remove key", x.remove(0, wrong, 1), UNKNOWN);
        due("remove keepers", x.remove(0, 0, wrong), OUTSIDE);
        due("pass", x.pass(wrong == 6 || wrong == 77 ? 301 : wrong), OUTSIDE);
        due("off, true", x.off(wrong, true), UNKNOWN);
        due("off, false", x.off(wrong, false), UNKNOWN);
        due("exchange a", x.exchange(wrong, 0), UNKNOWN);
        due("exchange b", x.exchange(0, wrong), UNKNOWN);
        due("rumour a", x.rumour(wrong, 0), UNKNOWN);
        due("rumour b", x.rumour(0, wrong), UNKNOWN);
        due("has site", x.has(wrong, 0, 0), UNKNOWN);
        due("has key", x.has(0, wrong, 0), UNKNOWN);
        due("has what", x.has(0, 0, wrong == 6 ? 7 : wrong), OUTSIDE);
        due("newest site", x.newest(wrong, 0), UNKNOWN);
        due("newest kind", x.newest(0, wrong), OUTSIDE);
        due("alike a", x.alike(wrong, 0), UNKNOWN);
        due("alike b", x.alike(0, wrong), UNKNOWN);
        due("risen", x.risen(wrong), UNKNOWN);
        due("partner site", x.partner(wrong, 0, 0), UNKNOWN);
        due("partner what", x.partner(0, 0, wrong), OUTSIDE);
        due("settle what", x.settle(0, false, wrong), OUTSIDE);
        due("count", x.count(wrong == 6 ? 12 : wrong), OUTSIDE);
    }

    private static void changeNothingWithoutLine() {
        sentence(1, "they change nothing.");
        LateCopies x = new LateCopies();
        write(x, "9");
        long before = x.digest();
        due("line()", x.line(), STATE);
        due("put(0, 0, 0)", x.put(0, 0, 0), UNKNOWN);
        due("remove(0, 0, 1)", x.remove(0, 0, 1), UNKNOWN);
        due("pass(1)", x.pass(1), STATE);
        due("off(0, true)", x.off(0, true), UNKNOWN);
        due("exchange(0, 1)", x.exchange(0, 1), UNKNOWN);
        due("rumour(0, 1)", x.rumour(0, 1), UNKNOWN);
        due("settle(0, true, 0)", x.settle(0, true, 0), STATE);
        due("nothing changes", x.digest(), before);
        x.letter('9');
        due("line()", x.line(), 2);
        counts(x, 0, 0, 2, 0, 0, 0, 0, 0, 10, 40, 2, 5, 1);
    }
}
