import java.math.BigInteger;

/** Promise 17: PARTNER of a SITE by a DRAW, and DRAWS. */
final class PartnerBoundaries extends Boundaries {
    private static final BigInteger MODULUS = BigInteger.TWO.pow(31);
    private static final BigInteger BACK = BigInteger.valueOf(1103515245).modInverse(MODULUS);

    private PartnerBoundaries() {
    }

    static void all() {
        nearestFirst();
        weights();
        drawOfAll();
        nextSeeds();
        roundedDown();
        partnerTells();
        noPartner();
        seedThen();
        partnerUnknown();
        partnerOutside();
    }

    /** The SEED whose next one is this. */
    private static int seedBefore(long next) {
        return BigInteger.valueOf(next - 12345).multiply(BACK).mod(MODULUS).intValueExact();
    }

    /** A SEED whose DRAW, ahead of its rest, is this number. */
    private static int seedDrawing(int number) {
        return seedBefore(number * 65536L);
    }

    private static void nearestFirst() {
        sentence(17, "PARTNER of a SITE by a DRAW: of other SITES that are not OFF, the NEAREST first (of like ones the least number)");
        ranksAre("012345", 0, 0, 1, 2, 3, 4, 5);
        ranksAre("012345", 3, 0, 2, 4, 1, 5, 0);
        ranksAre("012345", 5, 0, 4, 3, 2, 1, 0);
        ranksAre("000000", 0, 0, 1, 2, 3, 4, 5);
        ranksAre("000000", 3, 0, 0, 1, 2, 4, 5);
        ranksAre("113377", 2, 0, 3, 0, 1, 4, 5);
        ranksAre("113377", 4, 0, 5, 2, 3, 0, 1);
        ranksAre("0459", 3, 0, 2, 1, 0);
        ranksAre("0459", 2, 0, 1, 3, 0);
        ranksAre("246", 1, 0, 0, 2);
        ranksAre("245", 1, 0, 2, 0);
        ranksAre("09", 0, 0, 1);
        ranksAre("012345", 3, 4, 4, 1, 5, 0);
        ranksAre("012345", 3, 20, 1, 5, 0);
        ranksAre("012345", 3, 54, 0);
        // The SITE itself may be OFF: of others alone it is asked.
        ranksAre("012345", 3, 8, 2, 4, 1, 5, 0);
        ranksAre("012345", 3, 12, 4, 1, 5, 0);
    }

    /** One DRAW in the midst of each rank's part. */
    private static void ranksAre(String text, int site, int offBits, int... ranking) {
        LateCopies x = on(text);
        offOnly(x, offBits);
        int sum = 0;
        for (int rank = 0; rank < ranking.length; rank++) {
            int seed = seedDrawing(sum + WEIGHTS[rank] / 2);
            due("rank " + rank + " for " + site + " on " + text + ", OFF " + offBits, x.partner(site, seed, 0),
                ranking[rank]);
            sum += WEIGHTS[rank];
        }
    }

    private static void weights() {
        sentence(17, "they have WEIGHTS 60, 30, 20, 15, 12, by rank;");
        int[] firsts = {0, 60, 90, 110, 125};
        int[] lasts = {59, 89, 109, 124, 136};
        LateCopies x = on("012345");
        for (int rank = 0; rank < 5; rank++) {
            due("the first DRAW of rank " + rank, x.partner(0, seedDrawing(firsts[rank]), 0), rank + 1);
            due("the last DRAW of rank " + rank, x.partner(0, seedDrawing(lasts[rank]), 0), rank + 1);
        }
        // WEIGHTS go by rank, not by number or POSITION: OFF ones and others as near leave no gap.
        x.off(1, true);
        for (int rank = 0; rank < 4; rank++) {
            due("the first DRAW of rank " + rank, x.partner(0, seedDrawing(firsts[rank]), 0), rank + 2);
            due("the last DRAW of rank " + rank, x.partner(0, seedDrawing(lasts[rank]), 0), rank + 2);
        }
        LateCopies y = on("000000");
        for (int rank = 0; rank < 5; rank++) {
            due("the first DRAW of rank " + rank, y.partner(0, seedDrawing(firsts[rank]), 0), rank + 1);
            due("the last DRAW of rank " + rank, y.partner(0, seedDrawing(lasts[rank]), 0), rank + 1);
        }
    }

    private static void drawOfAll() {
        sentence(17, "a DRAW of all these together: the first one with which WEIGHTS, added up, are above it.");
        String text = "012345";
        int[] totals = {60, 90, 110, 125, 137};
        for (int others = 1; others <= 5; others++) {
            LateCopies x = on(text.substring(0, others + 1));
            int total = totals[others - 1];
            int sum = 0;
            int rank = 0;
            for (int draw = 0; draw < total; draw++) {
                if (draw == sum + WEIGHTS[rank]) {
                    sum += WEIGHTS[rank];
                    rank++;
                }
                due("DRAW " + draw + " of " + total, x.partner(0, seedDrawing(draw), 0), rank + 1);
                due("DRAW " + draw + " again, behind a whole turn", x.partner(0, seedDrawing(draw + total), 0), rank + 1);
            }
            int last = 32767 % total;
            int want = last < 60 ? 1 : last < 90 ? 2 : last < 110 ? 3 : last < 125 ? 4 : 5;
            due("the greatest DRAW, " + last + " of " + total, x.partner(0, seedDrawing(32767), 0), want);
        }
    }

    private static void nextSeeds() {
        sentence(17, "DRAWS: the next SEED each time: 1103515245 times it and 12345, its rest by 2 to the 31;");
        LateCopies x = on("05");
        due("of 0", x.partner(0, 0, 1), 12345);
        due("of 1", x.partner(0, 1, 1), 1103527590);
        due("of 2, beyond 2 to the 31", x.partner(0, 2, 1), 59559187);
        due("of the most", x.partner(0, MOST, 1), nextOf(MOST));
        due("of the most but one", x.partner(0, MOST - 1, 1), nextOf(MOST - 1));
        due("to 0, a whole turn", x.partner(0, seedBefore(0), 1), 0);
        due("to the most", x.partner(0, seedBefore(MOST), 1), MOST);
        due("to 1", x.partner(0, seedBefore(1), 1), 1);
        for (int bit = 0; bit < 31; bit++) {
            due("of 2 to the " + bit, x.partner(1, 1 << bit, 1), nextOf(1 << bit));
            due("of 2 to the " + bit + ", less 1", x.partner(1, (1 << bit) - 1, 1), nextOf((1 << bit) - 1));
        }
    }

    /** The next SEED by whole numbers without a bound. */
    private static long nextOf(int seed) {
        return BigInteger.valueOf(1103515245).multiply(BigInteger.valueOf(seed)).add(BigInteger.valueOf(12345))
            .mod(MODULUS).longValueExact();
    }

    private static void roundedDown() {
        sentence(17, "then that by 65536 (rounded down), its rest.");
        LateCopies x = on("059");
        due("59 and 65535 parts", x.partner(0, seedBefore(60 * 65536L - 1), 0), 1);
        due("60", x.partner(0, seedBefore(60 * 65536L), 0), 2);
        due("60 and one part", x.partner(0, seedBefore(60 * 65536L + 1), 0), 2);
        due("89 and 65535 parts", x.partner(0, seedBefore(90 * 65536L - 1), 0), 2);
        due("90, the rest is 0", x.partner(0, seedBefore(90 * 65536L), 0), 1);
        due("65535 parts of 1", x.partner(0, seedBefore(65535), 0), 1);
        due("0", x.partner(0, seedBefore(0), 0), 1);
        due("the most: 32767, the rest is 7", x.partner(0, seedBefore(MOST), 0), 1);
        due("32669 and 65535 parts, the rest is 89", x.partner(0, seedBefore(32670 * 65536L - 1), 0), 2);
        due("32670, the rest is 0", x.partner(0, seedBefore(32670 * 65536L), 0), 1);
    }

    private static void partnerTells() {
        sentence(17, "PARTNER of a SITE by a SEED: what = 0 which one");
        LateCopies x = on("019");
        int seed = seedDrawing(60);
        due("of 0", x.partner(0, seed, 0), 2);
        due("of 1", x.partner(1, seed, 0), 2);
        due("of 2", x.partner(2, seed, 0), 0);
        due("again", x.partner(2, seed, 0), 0);
        due("SITE 0 may be told", x.partner(1, seedDrawing(59), 0), 0);
        due("NOW stays", x.count(2), 0);
        due("TRAFFIC stays", x.count(4), 0);
    }

    private static void noPartner() {
        sentence(17, "(NONE: there is none)");
        LateCopies x = on("05");
        x.off(1, true);
        due("the other one is OFF", x.partner(0, 7, 0), NONE);
        due("no DRAW: the SEED as it came", x.partner(0, 7, 1), 7);
        due("of the one that is OFF", x.partner(1, 7, 0), 0);
        x.off(0, true);
        due("both are OFF", x.partner(0, 7, 0), NONE);
        due("both are OFF", x.partner(1, 7, 0), NONE);
        x.off(1, false);
        due("the other one is back", x.partner(0, 7, 0), 1);
        LateCopies y = on("000000");
        offOnly(y, 62);
        for (int site = 0; site < 6; site++) {
            due("all but 0 are OFF, of " + site, y.partner(site, 7, 0), site == 0 ? NONE : 0);
        }
    }

    private static void seedThen() {
        sentence(17, "1 the SEED then.");
        LateCopies x = on("000000");
        long seed = 7;
        for (int n = 0; n < 60; n++) {
            long next = nextOf((int) seed);
            due("the SEED then", x.partner(n % 6, (int) seed, 1), next);
            seed = next;
        }
        offOnly(x, 31);
        due("with one other SITE, too, there is a DRAW", x.partner(0, 7, 1), nextOf(7));
    }

    private static void partnerUnknown() {
        sentence(17, "UNKNOWN: site");
        LateCopies x = on("05");
        for (int wrong : new int[] {-1, 2, 6, LEAST, MOST}) {
            for (int what = -1; what <= 2; what++) {
                due("partner(" + wrong + ", 0, " + what + ")", x.partner(wrong, 0, what), UNKNOWN);
                due("partner(" + wrong + ", -1, " + what + ")", x.partner(wrong, -1, what), UNKNOWN);
            }
        }
        due("partner(1, 0, 0)", x.partner(1, 0, 0), 0);
    }

    private static void partnerOutside() {
        sentence(17, "OUTSIDE: seed (0 or more), what.");
        LateCopies x = on("05");
        for (int n = 0; n < 2; n++) {
            due("partner(0, -1, 0)", x.partner(0, -1, 0), OUTSIDE);
            due("partner(0, -1, 1)", x.partner(0, -1, 1), OUTSIDE);
            due("partner(0, least, 0)", x.partner(0, LEAST, 0), OUTSIDE);
            due("partner(0, 0, -1)", x.partner(0, 0, -1), OUTSIDE);
            due("partner(0, 0, 2)", x.partner(0, 0, 2), OUTSIDE);
            due("partner(0, 0, least)", x.partner(0, 0, LEAST), OUTSIDE);
            due("partner(0, 0, most)", x.partner(0, 0, MOST), OUTSIDE);
            due("partner(0, -1, 2)", x.partner(0, -1, 2), OUTSIDE);
            due("partner(0, 0, 0)", x.partner(0, 0, 0), n == 0 ? 1 : NONE);
            due("partner(0, most, 0)", x.partner(0, MOST, 0), n == 0 ? 1 : NONE);
            x.off(1, true);
        }
    }
}
