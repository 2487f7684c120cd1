/** Promises 1 to 5: a new object; sort, grower, deliver, grade, odds, plan, grown. */
public final class GoodsTest {

    public static void main(String[] args) {
        newObject();
        sorts();
        growers();
        deliveries();
        deliveriesHaveLimits();
        gradesByFound();
        gradesByDraws();
        gradesByStage();
        gradeIsRefused();
        odds();
        oddsByCounting();
        plans();
        grown();
        Check.end();
    }

    private static void newObject() {
        MarketHall x = new MarketHall();
        for (int what = 0; what <= 23; what++) {
            Check.due("sum(" + what + ") of a new object", x.sum(what), 0);
        }
        for (int account = 0; account <= 9; account++) {
            Check.due("account of a new object", x.account(account), 0);
        }
        int[] tariffs = {50, 120, 400, 2500};
        for (int which = 0; which < 4; which++) {
            Check.due("tariff of a new object", x.tariff(which, 1), tariffs[which]);
        }
        for (int a = 0; a < 6; a++) {
            for (int b = a + 1; b < 6; b++) {
                Check.due("way of a new object", x.way(a, b, 5), 3);
            }
        }
        Check.due("docks of a new object", x.docks(1), 2);
        for (int day = 0; day < 28; day++) {
            Check.due("outside of a new object", x.outside(day, 0), 18);
        }
        MarketHall y = new MarketHall();
        Check.due("tasks without signs", y.tasks(), -2);
        Check.state("undo of nothing", () -> y.undo());
        Check.state("again of nothing", () -> y.again(0));
        Check.due("match of nothing", y.match(0), 0);
        Check.due("isSound of nothing", y.isSound(0), true);
        Check.due("NONE", MarketHall.NONE, -1);
        Check.due("DUMPED", MarketHall.DUMPED, 4);
        Check.due("LOST", MarketHall.LOST, 3);
    }

    private static void sorts() {
        MarketHall x = new MarketHall();
        int[] low = {1, 0, 0, 100, 10};
        int[] high = {9, 12, 12, 600, 99};
        for (int n = 0; n < 5; n++) {
            int below = n;
            Check.range("sort below its range", () -> sort(x, low, below, -1));
            Check.range("sort above its range", () -> sort(x, high, below, 1));
        }
        Check.due("sort", sort(x, low, 0, 0), 0);
        Check.due("sort", sort(x, high, 0, 0), 1);
        for (int n = 2; n < 5; n++) {
            Check.due("sort", x.sort(3, 4, 4, 300, 60), n);
        }
        Check.state("a sixth sort", () -> x.sort(3, 4, 4, 300, 60));
        Check.range("a sixth sort out of its range", () -> x.sort(0, 4, 4, 300, 60));
        Check.due("sum(1)", x.sum(1), 5);
    }

    private static int sort(MarketHall x, int[] a, int changed, int by) {
        int[] b = a.clone();
        b[changed] += by;
        return x.sort(b[0], b[1], b[2], b[3], b[4]);
    }

    private static void growers() {
        MarketHall x = new MarketHall();
        Check.range("grower(-1, 0)", () -> x.grower(-1, 0));
        Check.range("grower(26, 0)", () -> x.grower(26, 0));
        Check.range("grower(0, -1)", () -> x.grower(0, -1));
        Check.range("grower(0, 10)", () -> x.grower(0, 10));
        Check.due("grower", x.grower(25, 9), 0);
        Check.due("grown 0", x.grown(0, 0), 25);
        Check.due("grown 1", x.grown(0, 1), 9);
        for (int n = 1; n < 6; n++) {
            Check.due("grower", x.grower(0, 0), n);
        }
        Check.state("a seventh grower", () -> x.grower(0, 0));
        Check.range("a seventh grower out of its range", () -> x.grower(0, 10));
    }

    private static void deliveries() {
        MarketHall x = Given.sortAndGrower();
        x.pass(5);
        Check.due("deliver", x.deliver(0, 0, 40, 2000, 40), 0);
        int[] told = {0, 0, 5, 40, 40, 40, 0, 2000, 0, -1, 0, 3, 6, 0, 0, -1};
        for (int what = 0; what < told.length; what++) {
            Check.due("pallet(0, " + what + ")", x.pallet(0, what), told[what]);
        }
        Check.index("no such grower", () -> x.deliver(1, 0, 1, 0, 0));
        Check.index("no such grower", () -> x.deliver(-1, 0, 1, 0, 0));
        Check.index("no such sort", () -> x.deliver(0, 1, 1, 0, 0));
        Check.index("no such sort, crates out of range", () -> x.deliver(0, -1, 0, 0, 0));
        Check.range("crates 0", () -> x.deliver(0, 0, 0, 0, 0));
        Check.range("crates 41", () -> x.deliver(0, 0, 41, 0, 0));
        Check.range("ripe -1", () -> x.deliver(0, 0, 1, -1, 0));
        Check.range("ripe 2001", () -> x.deliver(0, 0, 1, 2001, 0));
        Check.range("bad -1", () -> x.deliver(0, 0, 1, 0, -1));
        Check.range("more bad than crates", () -> x.deliver(0, 0, 5, 0, 6));
        Check.due("deliver", x.deliver(0, 0, 1, 0, 0), 1);
    }

    private static void deliveriesHaveLimits() {
        MarketHall x = Given.sortAndGrower();
        for (int n = 0; n < 12; n++) {
            Check.due("deliver", x.deliver(0, 0, 1, 0, 0), n);
        }
        Check.state("THE FLOOR is full", () -> x.deliver(0, 0, 1, 0, 0));
        Check.range("THE FLOOR is full, crates out of range", () -> x.deliver(0, 0, 0, 0, 0));
        for (int n = 12; n < 48; n++) {
            x.dump(n - 12);
            Check.due("deliver", x.deliver(0, 0, 1, 0, 0), n);
        }
        x.dump(40);
        Check.state("48 PALLETS came", () -> x.deliver(0, 0, 1, 0, 0));
        Check.due("isSound(1)", x.isSound(1), true);
    }

    /** As all CRATES are BAD, FOUND is the SAMPLE. */
    private static void gradesByFound() {
        int[][] due = {{1, 0, 2}, {1, 1, 1}, {2, 0, 3}, {2, 1, 2}, {3, 1, 2}, {4, 1, 3}, {9, 9, 1}, {10, 9, 2}, {19, 9, 2},
            {20, 9, 3}};
        MarketHall x = Given.sortAndGrower();
        x.deliver(0, 0, 20, 0, 20);
        x.deliver(0, 0, 20, 0, 0);
        int graded = 0;
        for (int[] one : due) {
            graded++;
            Check.due("grade with FOUND " + one[0] + ", PASS " + one[1], x.grade(0, one[0], one[1], 99), one[2]);
            Check.due("the GRADE", x.pallet(0, 9), one[2]);
            Check.due("how often graded", x.pallet(0, 14), graded);
            Check.due("FOUND", x.pallet(0, 15), one[0]);
            Check.due("what the SAMPLE cost", x.entry(0, 2), 50 * one[0]);
        }
        Check.due("grade without BAD CRATES", x.grade(1, 20, 0, 5), 0);
        Check.due("CRATES stay", x.pallet(0, 4), 20);
        Check.due("BAD stay", x.pallet(0, 5), 20);
        Check.due("from", x.entry(0, 0), 0);
        Check.due("to", x.entry(0, 1), 6);
        Check.due("for", x.entry(0, 3), 1);
        x.tariff(0, 7);
        x.grade(1, 3, 0, 5);
        Check.due("by another TARIFF", x.entry(0, 2), 21);
    }

    /** The DRAWS are told here once more, CRATE by CRATE. */
    private static void gradesByDraws() {
        MarketHall x = Given.sortAndGrower();
        for (int seed = 0; seed < 65536; seed += 1311) {
            int crates = 20 + seed % 21;
            int bad = seed % crates;
            int pallet = x.deliver(0, 0, crates, 0, bad);
            int sample = 1 + seed % 20;
            x.grade(pallet, sample, 9, seed);
            long drawn = seed;
            int badLeft = bad;
            for (int n = 0; n < sample; n++) {
                drawn = (25173 * drawn + 13849) % 65536;
                if (drawn / 16 % (crates - n) < badLeft) {
                    badLeft--;
                }
            }
            Check.due("FOUND by seed " + seed, x.pallet(pallet, 15), bad - badLeft);
            x.dump(pallet);
            if (pallet == 47) {
                x = Given.sortAndGrower();
            }
        }
    }

    /** PRIME is 300, SPAN 60. */
    private static void gradesByStage() {
        int[][] due = {{239, 0, 0}, {240, 1, 0}, {360, 1, 0}, {361, 2, 2}, {480, 2, 2}, {481, 3, 3}};
        MarketHall x = Given.sortAndGrower();
        for (int[] one : due) {
            int pallet = x.deliver(0, 0, 5, one[0], 0);
            Check.due("STAGE of " + one[0], x.pallet(pallet, 11), one[1]);
            Check.due("best GRADE of " + one[0], x.grade(pallet, 5, 0, 1), one[2]);
        }
        int bad = x.deliver(0, 0, 5, 400, 5);
        Check.due("a worse GRADE than the LEAST", x.grade(bad, 5, 0, 1), 3);
        Check.due("a better GRADE takes its place", x.grade(bad, 5, 9, 1), 2);
    }

    private static void gradeIsRefused() {
        MarketHall x = Given.open();
        int pallet = x.deliver(0, 0, 5, 300, 0);
        Check.index("no such PALLET", () -> x.grade(1, 0, 0, 0));
        Check.index("no such PALLET", () -> x.grade(-1, 1, 0, 0));
        Check.range("sample 0", () -> x.grade(pallet, 0, 0, 0));
        Check.range("sample 21", () -> x.grade(pallet, 21, 0, 0));
        Check.range("pass -1", () -> x.grade(pallet, 1, -1, 0));
        Check.range("pass 10", () -> x.grade(pallet, 1, 10, 0));
        Check.range("seed -1", () -> x.grade(pallet, 1, 0, -1));
        Check.range("seed 65536", () -> x.grade(pallet, 1, 0, 65536));
        Check.state("more than its CRATES", () -> x.grade(pallet, 6, 0, 0));
        x.queue(0, pallet, 10, 10);
        Check.state("it is QUEUED", () -> x.grade(pallet, 1, 0, 0));
        x.withdraw(pallet);
        Check.due("it is STORED again", x.grade(pallet, 5, 0, 65535), 0);
        x.dump(pallet);
        Check.state("it is DUMPED", () -> x.grade(pallet, 1, 0, 0));
        Check.due("what it keeps", x.pallet(pallet, 14) * 10 + x.pallet(pallet, 15), 10);
        Check.due("its GRADE stays", x.pallet(pallet, 9), 0);
    }

    private static void odds() {
        MarketHall x = new MarketHall();
        Check.due("odds above", x.odds(10, 3, 4, 1, 0), 2);
        Check.due("odds below", x.odds(10, 3, 4, 1, 1), 3);
        Check.due("0 above", x.odds(5, 5, 3, 2, 0), 0);
        Check.due("0 below", x.odds(5, 5, 3, 2, 1), 1);
        Check.due("1 above", x.odds(40, 20, 9, 9, 0), 1);
        Check.due("1 below", x.odds(40, 20, 9, 9, 1), 1);
        Check.due("half of them, none FOUND, above", x.odds(40, 20, 20, 0, 0), 1);
        Check.due("half of them, none FOUND, below", x.odds(40, 20, 20, 0, 1), 137846528820L);
        Check.range("crates 0", () -> x.odds(0, 0, 1, 0, 0));
        Check.range("crates 41", () -> x.odds(41, 0, 1, 0, 0));
        Check.range("bad -1", () -> x.odds(5, -1, 1, 0, 0));
        Check.range("bad 6", () -> x.odds(5, 6, 1, 0, 0));
        Check.range("sample 0", () -> x.odds(5, 0, 0, 0, 0));
        Check.range("sample 6 of 5", () -> x.odds(5, 0, 6, 0, 0));
        Check.range("sample 21", () -> x.odds(40, 0, 21, 0, 0));
        Check.range("pass -1", () -> x.odds(5, 0, 1, -1, 0));
        Check.range("pass 10", () -> x.odds(5, 0, 1, 10, 0));
        Check.range("what -1", () -> x.odds(5, 0, 1, 0, -1));
        Check.range("what 2", () -> x.odds(5, 0, 1, 0, 2));
    }

    /** Each way to draw a SAMPLE of up to 9 CRATES is counted. */
    private static void oddsByCounting() {
        MarketHall x = new MarketHall();
        for (int crates = 1; crates <= 9; crates++) {
            for (int sample = 1; sample <= crates; sample++) {
                for (int bad = 0; bad <= crates; bad++) {
                    for (int pass = 0; pass <= 4; pass++) {
                        long all = 0;
                        long good = 0;
                        for (int set = 0; set < 1 << crates; set++) {
                            if (Integer.bitCount(set) == sample) {
                                all++;
                                good += Integer.bitCount(set & (1 << bad) - 1) <= pass ? 1 : 0;
                            }
                        }
                        long above = x.odds(crates, bad, sample, pass, 0);
                        long below = x.odds(crates, bad, sample, pass, 1);
                        Check.due("odds(" + crates + ", " + bad + ", " + sample + ", " + pass + ")", above * all, below * good);
                        Check.due("in lowest terms", divisor(above, below), 1);
                    }
                }
            }
        }
    }

    private static long divisor(long a, long b) {
        return b == 0 ? a : divisor(b, a % b);
    }

    private static void plans() {
        MarketHall x = new MarketHall();
        Check.due("plan SAMPLE", x.plan(40, 1, 20, 0), 4);
        Check.due("plan PASS", x.plan(40, 1, 20, 1), 0);
        Check.due("one CRATE", x.plan(1, 0, 1, 0), 1);
        Check.due("one CRATE", x.plan(1, 0, 1, 1), 0);
        Check.due("no plan", x.plan(40, 1, 2, 0), -1);
        Check.due("no plan", x.plan(40, 1, 2, 1), -1);
        Check.range("poor is good", () -> x.plan(40, 5, 5, 0));
        Check.range("poor is less than good", () -> x.plan(40, 5, 4, 0));
        Check.range("crates 0", () -> x.plan(0, 0, 1, 0));
        Check.range("crates 41", () -> x.plan(41, 0, 1, 0));
        Check.range("good -1", () -> x.plan(10, -1, 1, 0));
        Check.range("poor 11", () -> x.plan(10, 1, 11, 0));
        Check.range("what 2", () -> x.plan(10, 1, 5, 2));
        Check.range("what -1", () -> x.plan(10, 1, 5, -1));
        for (int crates = 1; crates <= 40; crates += 3) {
            for (int good = 0; good < crates; good += 2) {
                for (int poor = good + 1; poor <= crates; poor += 3) {
                    int due = leastPlan(x, crates, good, poor);
                    String call = "plan(" + crates + ", " + good + ", " + poor + ")";
                    Check.due(call, x.plan(crates, good, poor, 0), due < 0 ? -1 : due / 10);
                    Check.due(call, x.plan(crates, good, poor, 1), due < 0 ? -1 : due % 10);
                }
            }
        }
    }

    private static int leastPlan(MarketHall x, int crates, int good, int poor) {
        for (int sample = 1; sample <= Math.min(20, crates); sample++) {
            for (int pass = 0; pass <= 9; pass++) {
                if (10 * x.odds(crates, good, sample, pass, 0) >= 9 * x.odds(crates, good, sample, pass, 1)
                        && 10 * x.odds(crates, poor, sample, pass, 0) <= x.odds(crates, poor, sample, pass, 1)) {
                    return sample * 10 + pass;
                }
            }
        }
        return -1;
    }

    private static void grown() {
        MarketHall x = Given.open();
        x.grower(20, 7);
        Given.sold(x, 0, 8, 100);
        int left = x.deliver(0, 0, 30, 300, 3);
        int dumped = x.deliver(0, 0, 5, 300, 3);
        x.dump(dumped);
        x.deliver(1, 0, 9, 300, 0);
        int[] due = {10, 5, 3, 43, 8, 5, 2, 1, 30};
        for (int what = 0; what < due.length; what++) {
            Check.due("grown(0, " + what + ")", x.grown(0, what), due[what]);
        }
        x.grade(left, 1, 0, 0);
        Check.due("none without a GRADE", x.grown(0, 7), 0);
        int[] other = {20, 7, 1, 9, 0, 0, 1, 1, 9};
        for (int what = 0; what < other.length; what++) {
            Check.due("grown(1, " + what + ")", x.grown(1, what), other[what]);
        }
        x.dump(0);
        Check.due("CRATES of LOST PARCELS count", x.grown(0, 4), 8);
        Check.due("they are not SPOILT", x.grown(0, 5), 5);
        Check.index("no such GROWER", () -> x.grown(2, 9));
        Check.index("no such GROWER", () -> x.grown(-1, 0));
        Check.range("what 9", () -> x.grown(0, 9));
        Check.range("what -1", () -> x.grown(0, -1));
    }
}
