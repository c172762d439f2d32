/** Samples and what they say, and what is asked of the whole; each sentence of the document with a test of its own. */
public final class SampleEdgeTest {
    private static final int NONE = PetitionDesk.NONE;
    // Ten lines of one voter, all good.
    private static final String TEN = "voter a 1 0;sheet;" + "sign a 1 1;".repeat(10);
    private static final int[] TWO_SAMPLES = {0, 1};

    public static void main(String[] args) {
        emptyAtFirst();
        drawnBySeed();
        drawnOfForty();
        good();
        pairs();
        estimates();
        low();
        high();
        greatestNumbers();
        verdicts();
        unlike();
        unseen();
        unseenOfForty();
        fewest();
        worst();
        leastAsBits();
        Check.end("SampleEdgeTest");
    }

    private static void emptyAtFirst() {
        Check.sentence("A SAMPLE (0, 1; empty at first)");
        PetitionDesk x = new PetitionDesk();
        PetitionDesk y = Check.deskOf(TEN);
        for (int which : TWO_SAMPLES) {
            Check.due("of a new object, sample " + which, () -> x.drawn(which, 0), 0);
            Check.due("of a text, sample " + which, () -> y.drawn(which, 0), 0);
            Check.due("no line is in it, sample " + which, () -> y.line(0, 0, 4 + which), 0);
        }
        for (int which : new int[] {-1, 2}) {
            Check.refused("sample " + which, () -> y.sample(which, 1, 1), Check.ARGUMENT);
            Check.refused("drawn " + which, () -> y.drawn(which, 0), Check.ARGUMENT);
            Check.refused("estimate " + which, () -> y.estimate(which, 0), Check.ARGUMENT);
        }
    }

    // Worked out apart from any Java: x times 1103515245 and 12345 modulo 2 to the 32, then shifted, each time.
    private static void drawnBySeed() {
        Check.sentence("n times x becomes x times 1103515245 and 12345 (ints, wrapping), and of LINES that are not DRAWN yet "
                + "that of number (x >>> 8) modulo how many there are (from 0 on, in order) is DRAWN");
        int[] seeds = {0, 1, -1, Integer.MAX_VALUE, Integer.MIN_VALUE, 123456789, -987654321};
        int[][] orders = {
            {8, 3, 9, 7, 0, 5, 4, 1, 6, 2}, {4, 2, 6, 3, 1, 5, 8, 9, 0, 7}, {7, 3, 4, 5, 8, 0, 9, 1, 2, 6},
            {9, 8, 3, 7, 0, 4, 6, 2, 1, 5}, {6, 8, 9, 2, 3, 0, 5, 4, 7, 1}, {8, 5, 3, 2, 0, 7, 9, 4, 1, 6},
            {8, 1, 7, 2, 6, 0, 3, 5, 9, 4}};
        for (int i = 0; i < seeds.length; i++) {
            PetitionDesk x = Check.deskOf(TEN);
            int due = 0;
            for (int n = 1; n <= 10; n++) {
                due |= 1 << orders[i][n - 1];
                x.sample(0, n, seeds[i]);
                int drawn = 0;
                for (int l = 0; l < 10; l++) {
                    drawn |= x.line(0, l, 4) << l;
                }
                Check.look("seed " + seeds[i] + ", " + n + " lines", Integer.toBinaryString(drawn), Integer.toBinaryString(due));
            }
        }
    }

    private static void drawnOfForty() {
        Check.sentence("A SAMPLE (0, 1; empty at first) of n LINES is DRAWN by a seed x");
        PetitionDesk x = Check.deskOf("voter a 1 0;" + ("sheet;" + "sign a 1 1;".repeat(5)).repeat(8));
        x.sample(1, 6, -987654321);
        for (int at : new int[] {38, 37, 32, 17, 29, 10}) {
            Check.due("line " + at + " of all", () -> x.line(at / 5, at % 5, 5), 1);
        }
        Check.due("no others", () -> x.drawn(1, 0), 6);
        Check.due("all forty", () -> x.sample(1, 40, 7), 40);
        Check.due("the last of all", () -> x.line(7, 4, 5), 1);
        Check.due("the other sample", () -> x.drawn(0, 0), 0);
        // Of one line alone each seed draws that.
        PetitionDesk y = Check.deskOf("sheet;sheet;sign a 1 1;");
        y.sample(0, 1, -1);
        Check.due("the only line", () -> y.line(1, 0, 4), 1);
    }

    private static void good() {
        Check.sentence("GOOD of it: LINES that are none of 1 to 4");
        // True, double, nobody, late, wrong; on sheet 1 a struck one.
        PetitionDesk x = Check.deskOf("voter a 1 5;sheet;sign a 1 9;sign a 1 9;sign b 1 9;sign a 1 1;sign a 1 8;sheet;sign a 1 9;good day>8;");
        x.strike(1, true);
        Check.due("of all six", () -> x.sample(0, 6, 1), 2);
        Check.due("asked", () -> x.drawn(0, 1), 2);
        x.strike(1, false);
        Check.due("struck no more", () -> x.drawn(0, 1), 3);
        // A double is good, its true line being in the sample or not.
        PetitionDesk y = Check.deskOf("voter a 1 0;sheet;sign a 1 1;sign a 1 1;");
        for (int seed = 0; seed < 4; seed++) {
            int by = seed;
            Check.due("one of two, seed " + seed, () -> y.sample(1, 1, by), 1);
        }
    }

    private static void pairs() {
        Check.sentence("PAIRS: couples of GOOD LINES of it with one VOTER");
        int[] due = {0, 0, 1, 3, 6, 10, 15, 21, 28, 36, 45};
        PetitionDesk x = Check.deskOf(TEN);
        Check.due("of an empty one", () -> x.drawn(0, 2), 0);
        for (int n = 1; n <= 10; n++) {
            int of = n;
            x.sample(0, n, n);
            Check.due("of " + n + " lines", () -> x.drawn(0, 2), due[of]);
        }
        // Of two voters each for itself; nobody, late ones and struck ones make none.
        PetitionDesk y = Check.deskOf("voter a 1 0;voter b 1 5;sheet;sign a 1 1;sign a 1 1;sign a 1 1;sign b 1 9;sign b 1 9;"
                + "sign b 1 1;sign c 1 1;sign c 1 1;sheet;sign a 1 1;");
        y.strike(1, true);
        y.sample(1, 9, 3);
        Check.due("three and one", () -> y.drawn(1, 2), 4);
        y.strike(1, false);
        Check.due("six and one", () -> y.drawn(1, 2), 7);
        PetitionDesk z = Check.deskOf("voter a 1 0;sheet;" + "sign a 1 1;".repeat(40));
        z.sample(0, 40, 3);
        Check.due("forty lines of one voter", () -> z.drawn(0, 2), 780);
    }

    private static void estimate(PetitionDesk x, int which, long above, long below) {
        Check.due("above", () -> x.estimate(which, 0), above);
        Check.due("below", () -> x.estimate(which, 1), below);
    }

    private static void estimates() {
        Check.sentence("its ESTIMATE: N g / n less N (N less 1) d / (n (n less 1)), in lowest terms");
        PetitionDesk x = Check.deskOf(TEN);
        x.sample(0, 2, 1);
        // 10 * 2 / 2 less 10 * 9 * 1 / (2 * 1) = 10 less 45.
        estimate(x, 0, -35, 1);
        x.sample(1, 10, 1);
        // 10 less 10 * 9 * 45 / (10 * 9).
        estimate(x, 1, -35, 1);
        // None good: 0, by 1 in lowest terms.
        PetitionDesk y = Check.deskOf("sheet;" + "sign a 1 1;".repeat(10));
        y.sample(0, 4, 1);
        estimate(y, 0, 0, 1);
        // Two lines of one voter and no more: 2 less 1.
        PetitionDesk z = Check.deskOf("voter a 1 0;sheet;sign a 1 1;sign a 1 1;");
        z.sample(0, 2, 1);
        estimate(z, 0, 1, 1);
        // A number above of 0 that is a difference: 3 good ones of one voter, all drawn: 3 less 3.
        PetitionDesk w = Check.deskOf("voter a 1 0;sheet;sign a 1 1;sign a 1 1;sign a 1 1;");
        w.sample(0, 3, 1);
        estimate(w, 0, 0, 1);
        // Seven lines, unlike voters, the last one is nobody's; three drawn: 7 * 3 / 3 or 7 * 2 / 3.
        PetitionDesk v = Check.deskOf(Check.voters(6) + "sheet;sign a 0 1;sign a 1 1;sign a 2 1;sign a 3 1;sign a 4 1;sign a 5 1;sign b 1 1;");
        int seen = 0;
        for (int seed = 0; seed < 10; seed++) {
            v.sample(0, 3, seed);
            int nobody = v.line(0, 6, 4);
            seen |= 1 << nobody;
            estimate(v, 0, nobody == 1 ? 14 : 7, nobody == 1 ? 3 : 1);
        }
        Check.look("both were drawn", "" + seen, "3");
        // The greatest: forty of one voter, two drawn: 40 less 40 * 39 / 2; and forty of sixteen voters' lines at most.
        PetitionDesk u = Check.deskOf("voter a 1 0;sheet;" + "sign a 1 1;".repeat(40));
        u.sample(0, 2, 1);
        estimate(u, 0, 40 - 780, 1);
        // Below alone: 40 lines, 1 good one of 3 drawn: 40 / 3.
        PetitionDesk t = Check.deskOf("voter a 1 0;sheet;sign a 1 1;" + "sign b 1 1;".repeat(39));
        int found = 0;
        for (int seed = 0; seed < 60 && found < 2; seed++) {
            t.sample(1, 3, seed);
            if (t.line(0, 0, 5) == 1) {
                found++;
                estimate(t, 1, 40, 3);
            }
        }
        Check.look("it was drawn", "" + found, "2");
    }

    private static void bounds(String text, int n, int low, int high) {
        PetitionDesk x = Check.deskOf(text);
        x.sample(0, n, 1);
        Check.due("low of " + n + " of \"" + text + "\"", () -> x.drawn(0, 3), low);
        Check.due("high of " + n + " of \"" + text + "\"", () -> x.drawn(0, 4), high);
    }

    private static void low() {
        Check.sentence("LOW: the least K for which a thousand times the number of ways to take n of N things, K of them marked, "
                + "with g or more marked, is more than ALPHA times the number of all ways");
        // All good, four of ten: 1000 * C(K, 4) > 50 * 210: C(5, 4) = 5 is too few, C(6, 4) = 15 is not.
        bounds(TEN, 4, 6, 10);
        // More, not as many: one of four, 1000 * K > 250 * 4 from 2 on.
        String four = "voter a 1 0;sheet;" + "sign a 1 1;".repeat(4);
        bounds(four + "alpha 250;", 1, 2, 4);
        bounds(four + "alpha 249;", 1, 1, 4);
        bounds(four + "alpha 251;", 1, 2, 4);
        // A thousand times: one of three, 1000 * K against 333 * 3 and 334 * 3.
        String three = "voter a 1 0;sheet;" + "sign a 1 1;".repeat(3);
        bounds(three + "alpha 333;", 1, 1, 3);
        bounds(three + "alpha 334;", 1, 2, 3);
        // All of them drawn: as many as there are.
        bounds(four + "alpha 1;", 4, 4, 4);
        bounds(four + "alpha 499;", 4, 4, 4);
        // None good: with none or more marked are all ways, of K 0, too.
        bounds("sheet;sign a 1 1;sign a 1 1;alpha 499;", 1, 0, 1);
        // The least alpha: 1000 * C(K, 1) > 4.
        bounds(four + "alpha 1;", 1, 1, 4);
    }

    private static void high() {
        Check.sentence("HIGH: the greatest K for which this is so with g or fewer");
        // None good, four of ten: 1000 * C(10 - K, 4) > 50 * 210: 10 - K is 6 or more.
        bounds("sheet;" + "sign a 1 1;".repeat(10), 4, 0, 4);
        // More, not as many: one of four, none good: 1000 * (4 - K) > 250 * 4 up to 2.
        String four = "sheet;" + "sign a 1 1;".repeat(4);
        bounds(four + "alpha 250;", 1, 0, 2);
        bounds(four + "alpha 249;", 1, 0, 3);
        bounds(four + "alpha 251;", 1, 0, 2);
        // A thousand times: one of three, none good, 1000 * (3 - K) against 333 * 3 and 334 * 3.
        String three = "sheet;" + "sign a 1 1;".repeat(3);
        bounds(three + "alpha 333;", 1, 0, 2);
        bounds(three + "alpha 334;", 1, 0, 1);
        // All of them drawn: as many as were good.
        bounds(four + "alpha 1;", 4, 0, 0);
        bounds(four + "alpha 499;", 4, 0, 0);
        // All good: with all or fewer marked are all ways, of K all, too.
        bounds("voter a 1 0;sheet;sign a 1 1;sign a 1 1;alpha 499;", 1, 1, 2);
        // One good of two drawn of four: C(K, 1) * C(4 - K, 1) + C(4 - K, 2) of 6: K 3: 3, K 4: 0. LOW: K 1: 3, K 0: 0.
        PetitionDesk x = Check.deskOf("voter a 1 0;sheet;sign a 1 1;sign a 1 1;sign b 1 1;sign b 1 1;alpha 499;");
        int found = 0;
        for (int seed = 0; seed < 30; seed++) {
            if (x.sample(1, 2, seed) == 1) {
                found++;
                Check.due("one of two, low", () -> x.drawn(1, 3), 1);
                Check.due("one of two, high", () -> x.drawn(1, 4), 3);
            }
        }
        Check.look("such samples", "" + (found > 0), "true");
    }

    private static void greatestNumbers() {
        Check.sentence("BOUNDS");
        // Half of forty: the ways are 137846528820, a thousand times that is far above an int.
        String forty = "voter a 1 0;sheet;" + "sign a 1 1;".repeat(40);
        // C(K, 20) has to be more than a twentieth of that, 6892326441: C(35, 20) = 3247943160, C(36, 20) = 7307872110.
        bounds(forty, 20, 36, 40);
        bounds("sheet;" + "sign a 1 1;".repeat(40), 20, 0, 4);
        // 499 thousandths of it are 68785417881.18, C(39, 20) = 68923264410.
        bounds(forty + "alpha 499;", 20, 39, 40);
        bounds(forty + "alpha 1;", 20, 32, 40);
        bounds(forty, 40, 40, 40);
        bounds(forty, 1, 3, 40);
    }

    private static void verdict(String text, int n, int want) {
        PetitionDesk x = Check.deskOf(text);
        x.sample(1, n, 1);
        Check.due("verdict of " + n + " of \"" + text + "\"", () -> x.drawn(1, 5), want);
    }

    private static void verdicts() {
        Check.sentence("VERDICT: 1 LOW is NEED or more, 2 HIGH is below NEED, 0 else: count");
        // LOW 6, HIGH 10.
        verdict(TEN + "need 5;", 4, 1);
        verdict(TEN + "need 6;", 4, 1);
        verdict(TEN + "need 7;", 4, 0);
        verdict(TEN + "need 10;", 4, 0);
        verdict(TEN + "need 11;", 4, 2);
        // LOW 0, HIGH 4.
        String none = "sheet;" + "sign a 1 1;".repeat(10);
        verdict(none + "need 0;", 4, 1);
        verdict(none + "need 1;", 4, 0);
        verdict(none + "need 4;", 4, 0);
        verdict(none + "need 5;", 4, 2);
        // All drawn: LOW and HIGH are one number, so nothing is left to count.
        verdict(TEN + "need 10;", 10, 1);
        verdict(TEN + "need 11;", 10, 2);
    }

    private static void unlike() {
        Check.sentence("UNLIKE by both SAMPLES: how many VOTERS GOOD LINES of the one have, times how many those of the other one "
                + "have, by how many are in both, in lowest terms");
        // Four voters, one of them twice, and a line of nobody.
        PetitionDesk x = Check.deskOf(Check.voters(4) + "sheet;sign a 0 1;sign a 1 1;sign a 2 1;sign a 3 1;sign a 0 1;sign b 1 1;");
        int whole = 0;
        int parts = 0;
        for (int seed = 0; seed < 24; seed++) {
            x.sample(0, 3, seed);
            x.sample(1, 4, 5 * seed + 1);
            int[] sets = new int[2];
            for (int l = 0; l < 5; l++) {
                sets[0] |= x.line(0, l, 4) << l % 4;
                sets[1] |= x.line(0, l, 5) << l % 4;
            }
            int both = Integer.bitCount(sets[0] & sets[1]);
            int product = Integer.bitCount(sets[0]) * Integer.bitCount(sets[1]);
            int common = both == 0 ? 1 : product % both == 0 ? both : both % 2 == 0 && product % 2 == 0 ? 2 : 1;
            whole += both > 1 && common == both ? 1 : 0;
            parts += both > 1 && common < both ? 1 : 0;
            Check.due("above, seed " + seed, () -> x.unlike(0), both == 0 ? NONE : product / common);
            Check.due("below, seed " + seed, () -> x.unlike(1), both == 0 ? NONE : both / common);
        }
        Check.look("whole numbers and parts were seen", (whole > 0) + " " + (parts > 0), "true true");
        // Sixteen voters in both: 16 * 16 / 16.
        StringBuilder text = new StringBuilder(Check.voters(16)).append("sheet;");
        for (int i = 0; i < 16; i++) {
            text.append("sign a ").append(i).append(" 1;");
        }
        PetitionDesk y = Check.deskOf(text.toString());
        y.sample(0, 16, 1);
        y.sample(1, 16, 2);
        Check.due("sixteen", () -> y.unlike(0), 16);
        Check.due("by one", () -> y.unlike(1), 1);
        y.sample(1, 1, 2);
        Check.due("sixteen times one by one", () -> y.unlike(0), 16);
    }

    private static void unseen(PetitionDesk x, int n, long above, long below) {
        Check.due("unseen(" + n + ", 0)", () -> x.unseen(n, 0), above);
        Check.due("unseen(" + n + ", 1)", () -> x.unseen(n, 1), below);
    }

    private static void unseen() {
        Check.sentence("UNSEEN of n: of all ways to take n LINES those by which no two that are none of 1 to 4 have one VOTER, by "
                + "all ways, in lowest terms");
        // a, a, b, b, nobody: of two lines eight of ten ways; of three four of ten, nobody's being in each of them.
        PetitionDesk x = Check.deskOf("voter a 1 0;voter b 1 0;sheet;sign a 1 1;sign a 1 1;sign b 1 1;sign b 1 1;sign c 1 1;");
        unseen(x, 0, 1, 1);
        unseen(x, 1, 1, 1);
        unseen(x, 2, 4, 5);
        unseen(x, 3, 2, 5);
        unseen(x, 4, 0, 1);
        unseen(x, 5, 0, 1);
        // Lines of 1 to 4 make no pair, even with a good one of their voter: late ones, wrong ones, struck ones.
        PetitionDesk y = Check.deskOf("voter a 1 5;sheet;sign a 1 1;sign a 1 9;sign a 1 8;sign a 1 1;good not day=8;");
        unseen(y, 4, 1, 1);
        PetitionDesk z = Check.deskOf("voter a 1 0;sheet;sign a 1 1;sheet;sign a 1 1;");
        unseen(z, 2, 0, 1);
        z.strike(1, true);
        unseen(z, 2, 1, 1);
        // No lines: there is one way to take none.
        unseen(new PetitionDesk(), 0, 1, 1);
        // A sample is not asked.
        z.sample(0, 1, 1);
        unseen(z, 1, 1, 1);
    }

    private static void unseenOfForty() {
        Check.sentence("UNSEEN of n");
        // Sixteen voters, two lines each, and eight of nobody: the greatest numbers that there are.
        StringBuilder text = new StringBuilder();
        for (int i = 0; i < 16; i++) {
            text.append("voter ").append((char) ('a' + i)).append(" 1 1;");
        }
        PetitionDesk x = Check.deskOf(text + "sheet;" + "sign z 1 1;".repeat(8));
        for (int v = 0; v < 16; v++) {
            x.sign(0, v, 9);
            x.sign(0, v, 9);
        }
        Check.due("forty lines", () -> x.told(2), 40);
        // The coefficient of t to the n of (1 + 2t) to the 16 times (1 + t) to the 8, by C(40, n).
        unseen(x, 2, 191, 195);
        unseen(x, 20, 528384, 547010035);
        unseen(x, 24, 32768, 31426050825L);
        unseen(x, 25, 0, 1);
        unseen(x, 40, 0, 1);
        PetitionDesk y = Check.deskOf("sheet;" + "sign z 1 1;".repeat(40));
        unseen(y, 40, 1, 1);
        unseen(y, 20, 1, 1);
        PetitionDesk z = Check.deskOf("voter a 1 0;sheet;" + "sign a 1 1;".repeat(40));
        unseen(z, 1, 1, 1);
        unseen(z, 2, 0, 1);
    }

    private static void fewest() {
        Check.sentence("FEWEST: the least n for which a SAMPLE of n LINES, all of them GOOD, would have VERDICT 1");
        // NEED less 1 marked ones must be ruled out: 1000 * C(NEED - 1, n) no more than ALPHA * C(10, n).
        int[] due = {1, 1, 2, 2, 3, 3, 4, 5, 6, 8, 10, NONE};
        for (int need = 0; need < due.length; need++) {
            int of = need;
            Check.due("need " + need, () -> Check.deskOf(TEN + "need " + of + ";").fewest(), due[of]);
        }
        // As many is enough: 1000 * C(1, 1) against 100 * 10 and 99 * 10.
        Check.due("need 2, alpha 100", () -> Check.deskOf(TEN + "need 2;alpha 100;").fewest(), 1);
        Check.due("need 2, alpha 99", () -> Check.deskOf(TEN + "need 2;alpha 99;").fewest(), 2);
        // What the lines are does not matter, nor what was drawn.
        PetitionDesk x = Check.deskOf("sheet;" + "sign a 1 1;".repeat(10) + "need 10;");
        x.sample(0, 3, 1);
        Check.due("nobody's lines", () -> x.fewest(), 10);
    }

    private static void worst() {
        Check.sentence("WORST of k SHEETS: those (not STRUCK) by which, STRUCK by hand, fewest LINES are TRUE");
        // Sheet 0: a, b, c. Sheet 1: a, b, c, too. Sheet 2: d, e. Taken one by one sheet 2 costs most, by two 0 and 1.
        PetitionDesk x = Check.deskOf("voter a 1 0;voter b 1 0;voter c 1 0;voter d 1 0;voter e 1 0;sheet;sign a 1 1;sign b 1 1;"
                + "sign c 1 1;sheet;sign a 1 1;sign b 1 1;sign c 1 1;sheet;sign d 1 1;sign e 1 1;");
        worst(x, 1, 4, 3);
        worst(x, 2, 3, 2);
        worst(x, 3, 7, 0);
        worst(x, 4, NONE, NONE);
        x.strike(2, true);
        worst(x, 1, 1, 3);
        worst(x, 2, 3, 0);
        worst(x, 3, NONE, NONE);
        // One struck by its wrongs is none of them either; one without lines may be.
        PetitionDesk y = Check.deskOf("voter a 1 0;sheet;sign a 1 1;sign b 1 1;sheet;sheet;sign a 1 1;spoilt 49;");
        worst(y, 1, 4, 0);
        worst(y, 2, 6, 0);
        worst(y, 3, NONE, NONE);
        // Doubles and late ones count for nothing.
        PetitionDesk z = Check.deskOf("voter a 1 5;voter b 1 0;sheet;sign a 1 1;sign a 1 2;sign a 1 3;sheet;sign b 1 1;sign b 1 1;");
        worst(z, 1, 2, 0);
        PetitionDesk w = Check.deskOf("voter a 1 0;" + "sheet;sign a 1 1;".repeat(8));
        worst(w, 7, 127, 1);
        worst(w, 8, 255, 0);
        worst(new PetitionDesk(), 1, NONE, NONE);
    }

    private static void worst(PetitionDesk x, int k, int set, int left) {
        Check.due("worst(" + k + ", 0)", () -> x.worst(k, 0), set);
        Check.due("worst(" + k + ", 1)", () -> x.worst(k, 1), left);
    }

    private static void leastAsBits() {
        Check.sentence("of several sets the least as bits");
        PetitionDesk x = Check.deskOf("voter a 1 0;" + "sheet;".repeat(8) + "sign a 1 1;");
        worst(x, 1, 128, 0);
        worst(x, 2, 129, 0);
        worst(x, 3, 131, 0);
        worst(x, 8, 255, 0);
        PetitionDesk y = Check.deskOf("sheet;".repeat(8));
        for (int k = 1; k <= 8; k++) {
            worst(y, k, (1 << k) - 1, 0);
        }
        y.strike(0, true);
        y.strike(2, true);
        worst(y, 1, 2, 0);
        worst(y, 2, 10, 0);
        worst(y, 6, 250, 0);
        worst(y, 7, NONE, NONE);
    }
}
