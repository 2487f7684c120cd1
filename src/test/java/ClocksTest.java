import java.util.ArrayList;
import java.util.List;

/** Promises 14 to 18: clock, queue, withdraw, hand, lot, takings, bestRow, bestStart. */
public final class ClocksTest {

    public static void main(String[] args) {
        clocks();
        queues();
        queueIsRefused();
        withdraws();
        handFalls();
        handFallsByOneCent();
        handRises();
        handIsNeverAboveStart();
        parcelIsTold();
        badCratesGoAlong();
        hours();
        rowMovesUp();
        sixtyParcels();
        handIsTold();
        lots();
        takings();
        takingsAreWhatIsSold();
        bestRow();
        bestRowAgainstAllRows();
        bestStart();
        bestStartAgainstAllStarts();
        Check.end();
    }

    private static void clocks() {
        MarketHall x = new MarketHall();
        Check.range("from -1", () -> x.clock(-1, 1, 1, 1, 0));
        Check.range("from 24", () -> x.clock(24, 1, 1, 1, 0));
        Check.range("hours 0", () -> x.clock(0, 0, 1, 1, 0));
        Check.range("hours 7", () -> x.clock(0, 7, 1, 1, 0));
        Check.range("from and hours 25", () -> x.clock(23, 2, 1, 1, 0));
        Check.range("speed 0", () -> x.clock(0, 1, 0, 1, 0));
        Check.range("speed 7", () -> x.clock(0, 1, 7, 1, 0));
        Check.range("step 0", () -> x.clock(0, 1, 1, 0, 0));
        Check.range("step 501", () -> x.clock(0, 1, 1, 501, 0));
        Check.range("rise -1", () -> x.clock(0, 1, 1, 1, -1));
        Check.range("rise 10", () -> x.clock(0, 1, 1, 1, 10));
        Check.due("clock", x.clock(18, 6, 6, 500, 9), 0);
        Check.due("clock", x.clock(23, 1, 1, 1, 0), 1);
        Check.state("a third CLOCK", () -> x.clock(0, 1, 1, 1, 0));
        Check.range("a third CLOCK out of range", () -> x.clock(0, 1, 1, 1, 10));
        int[] due = {18, 6, 6, 500, 9, 0, -1, -1, 0, 0, 0, 0, 0};
        for (int what = 0; what < due.length; what++) {
            Check.due("hand(0, " + what + ")", x.hand(0, what), due[what]);
        }
    }

    private static void queues() {
        MarketHall x = Given.open();
        x.clock(6, 1, 1, 1, 0);
        x.room(12, 0, 0);
        for (int n = 0; n < 12; n++) {
            x.put(x.deliver(0, 0, 5, 0, 0), 0);
            Check.due("queue", x.queue(0, n, 100 + n, 50), n);
        }
        int pallet = x.deliver(0, 0, 5, 0, 0);
        Check.state("12 LOTS", () -> x.queue(0, pallet, 100, 50));
        Check.due("queue at another CLOCK", x.queue(1, pallet, 201, 1), 0);
        Check.due("it is QUEUED", x.pallet(pallet, 10), MarketHall.QUEUED);
        Check.due("isSound(4)", x.isSound(4), true);
        for (int n = 13; n < 24; n++) {
            Check.due("queue at another CLOCK", x.queue(1, x.deliver(0, 0, 5, 0, 0), 9, 9), n - 12);
        }
        Check.due("withdraw out of a full row", x.withdraw(23), 11);
        Check.due("withdraw", x.withdraw(12), 10);
        Check.due("the last one moved up", x.lot(1, 9, 0), 22);
        Check.due("withdraw out of the other full row", x.withdraw(0), 11);
        Check.due("the last one moved up", x.lot(0, 10, 0), 11);
    }

    private static void queueIsRefused() {
        MarketHall x = Given.open();
        x.room(1, 0, 0);
        int pallet = x.deliver(0, 0, 5, 300, 0);
        Check.index("no such CLOCK", () -> x.queue(1, pallet, 0, 0));
        Check.index("no such CLOCK", () -> x.queue(-1, pallet, 5, 5));
        Check.index("no such PALLET", () -> x.queue(0, pallet + 1, 5, 5));
        Check.index("no such PALLET", () -> x.queue(0, -1, 5, 5));
        Check.range("start 0", () -> x.queue(0, pallet, 0, 0));
        Check.range("start 10000", () -> x.queue(0, pallet, 10000, 9999));
        Check.range("reserve 0", () -> x.queue(0, pallet, 5, 0));
        Check.range("reserve above start", () -> x.queue(0, pallet, 5, 6));
        Check.range("start above 200 STEPS", () -> x.queue(0, pallet, 2002, 1));
        Check.due("start of 200 STEPS", x.queue(0, pallet, 2001, 1), 0);
        Check.state("it is QUEUED", () -> x.queue(0, pallet, 5, 5));
        Check.range("it is QUEUED, start out of range", () -> x.queue(0, pallet, 0, 5));
        x.dump(pallet);
        Check.state("it is DUMPED", () -> x.queue(0, pallet, 5, 5));
        Given.sold(x, 0, 5, 100);
        Check.due("STORED, without CRATES", x.pallet(1, 10) * 100 + x.pallet(1, 4), 0);
        Check.state("it has no CRATES", () -> x.queue(0, 1, 5, 5));
        int rotten = x.deliver(0, 0, 5, 999, 0);
        x.put(rotten, 0);
        x.inspector(2, 3);
        x.round(0, 127, 1);
        x.pass(1);
        Check.due("a ROOM is SHUT", x.kept(0, 10), 26);
        int good = x.deliver(0, 0, 5, 0, 0);
        Check.state("put into it", () -> x.put(good, 0));
    }

    private static void withdraws() {
        MarketHall x = Given.open();
        for (int n = 0; n < 4; n++) {
            x.queue(0, x.deliver(0, 0, 5, 300, 0), 100 + n, 10 + n);
        }
        Check.due("withdraw", x.withdraw(1), 3);
        Check.due("it is STORED", x.pallet(1, 10), MarketHall.STORED);
        Check.due("the first one stays", x.lot(0, 0, 0), 0);
        Check.due("those behind move up", x.lot(0, 1, 0), 2);
        Check.due("with their START", x.lot(0, 1, 1), 102);
        Check.due("with their RESERVE", x.lot(0, 2, 2), 13);
        Check.state("it is not QUEUED", () -> x.withdraw(1));
        Check.index("no such PALLET", () -> x.withdraw(4));
        Check.index("no such PALLET", () -> x.withdraw(-1));
        x.dump(3);
        Check.due("a LOT that is DUMPED is gone", x.hand(0, 5), 2);
        Check.due("queued again behind all", x.queue(0, 1, 5, 5), 2);
        Check.due("withdraw", x.withdraw(0), 2);
    }

    /** STEP 10: from 105 by 95 and 85 down to 75, where the ORDER takes. */
    private static void handFalls() {
        MarketHall x = Given.open();
        x.order(0, 0, 3, 4, 84, Given.EVERY_DAY);
        int pallet = Given.graded(x, 9);
        x.queue(0, pallet, 105, 40);
        x.pass(1);
        Check.due("its PRICE", x.parcel(0, 5), 75);
        Check.due("the HAND fell on to its RESERVE", x.hand(0, 6), 45);
        Check.due("the rest is STORED", x.pallet(pallet, 10), MarketHall.STORED);
        Check.due("its CRATES", x.pallet(pallet, 4), 5);
        Check.due("the LOT is gone", x.hand(0, 5), 0);
        x.queue(0, pallet, 45, 45);
        x.pass(1);
        Check.due("none takes it", x.sum(12), 1);
        Check.due("the HAND", x.hand(0, 6), 45);
        Check.due("LOTS that were sold", x.hand(0, 8), 2);
    }

    private static void handFallsByOneCent() {
        MarketHall x = Given.still();
        x.buyer(1, 900000, 3);
        x.clock(0, 6, 6, 1, 0);
        x.order(0, 0, 3, 4, 99, Given.EVERY_DAY);
        x.queue(0, Given.graded(x, 5), 100, 98);
        x.pass(1);
        Check.due("its PRICE", x.parcel(0, 5), 99);
        Check.due("the HAND", x.hand(0, 6), 98);
    }

    /** RISE 2 of STEP 20: sold at 100, the HAND is 140 and falls again. */
    private static void handRises() {
        MarketHall x = Given.still();
        x.buyer(1, 900000, 3);
        x.clock(0, 6, 6, 20, 2);
        x.order(0, 0, 3, 4, 100, Given.EVERY_DAY);
        x.order(0, 0, 3, 3, 90, Given.EVERY_DAY);
        int pallet = Given.graded(x, 9);
        x.queue(0, pallet, 160, 15);
        Check.due("PARCELS that would be SOLD", x.takings(0, 1, 1), 2);
        x.pass(1);
        Check.due("the first PRICE", x.parcel(0, 5), 100);
        Check.due("the second PRICE", x.parcel(1, 5), 80);
        Check.due("the HAND rose to 120 and fell to 20", x.hand(0, 6), 20);
    }

    private static void handIsNeverAboveStart() {
        MarketHall x = Given.still();
        x.buyer(1, 900000, 3);
        x.clock(0, 6, 6, 20, 9);
        x.order(0, 0, 3, 4, 900, Given.EVERY_DAY);
        x.order(0, 0, 3, 3, 800, Given.EVERY_DAY);
        x.queue(0, Given.graded(x, 7), 101, 1);
        x.pass(1);
        Check.due("START is the first PRICE", x.parcel(0, 5), 101);
        Check.due("START is the second PRICE", x.parcel(1, 5), 101);
        Check.due("the HAND stays where the LOT was over", x.hand(0, 6), 101);
    }

    private static void parcelIsTold() {
        MarketHall x = Given.open();
        x.pass(1);
        x.order(0, 0, 3, 4, 84, Given.EVERY_DAY);
        x.queue(0, Given.graded(x, 9), 84, 84);
        x.pass(1);
        int[] due = {0, 0, 0, 4, 0, 84, 2, 0, 300, 0, -1, 300, 0, 1, -1, -1, -1, -1, 336, 336, 3};
        for (int what = 0; what < due.length; what++) {
            Check.due("parcel(0, " + what + ")", x.parcel(0, what), due[what]);
        }
    }

    /** Of 10 CRATES 7 are BAD: the first 3 have 7 * 3 / 10, the next 4 have 5 * 4 / 7. */
    private static void badCratesGoAlong() {
        MarketHall x = Given.open();
        x.order(0, 0, 3, 3, 90, Given.EVERY_DAY);
        x.order(0, 0, 3, 4, 80, Given.EVERY_DAY);
        int pallet = x.deliver(0, 0, 10, 300, 7);
        x.grade(pallet, 10, 9, 1);
        x.queue(0, pallet, 90, 80);
        x.pass(1);
        Check.due("BAD of the first PARCEL", x.parcel(0, 4), 2);
        Check.due("BAD of the second PARCEL", x.parcel(1, 4), 2);
        Check.due("BAD that are left", x.pallet(pallet, 5), 3);
        Check.due("CRATES that are left", x.pallet(pallet, 4), 3);
        Check.due("the GRADE goes along", x.parcel(1, 7), 1);
    }

    /** OPEN in the HOURS 3 and 4, 2 LOTS in each. */
    private static void hours() {
        MarketHall x = Given.still();
        x.clock(3, 2, 2, 10, 0);
        for (int n = 0; n < 6; n++) {
            x.queue(0, x.deliver(0, 0, 5, 300, 0), 10, 10);
        }
        x.pass(2);
        Check.due("not OPEN", x.hand(0, 12), 0);
        Check.due("LOTS", x.hand(0, 5), 6);
        x.pass(1);
        Check.due("OPEN", x.hand(0, 12), 1);
        Check.due("LOTS", x.hand(0, 5), 4);
        x.pass(1);
        Check.due("LOTS", x.hand(0, 5), 2);
        x.pass(1);
        Check.due("not OPEN", x.hand(0, 12), 0);
        Check.due("LOTS", x.hand(0, 5), 2);
        x.pass(24);
        Check.due("the next DAY", x.hand(0, 5), 0);
        Check.due("LOTS that it sold", x.hand(0, 8), 6);
    }

    private static void rowMovesUp() {
        MarketHall x = Given.still();
        x.clock(0, 6, 1, 10, 0);
        for (int n = 0; n < 3; n++) {
            x.queue(0, x.deliver(0, 0, 5, 300, 0), 20 + n, 10 + n);
        }
        x.pass(1);
        Check.due("the LOT that was over", x.hand(0, 7), 0);
        Check.due("the next one is the first one", x.lot(0, 0, 0), 1);
        Check.due("its START", x.lot(0, 0, 1), 21);
        Check.due("its RESERVE", x.lot(0, 0, 2), 11);
        Check.due("its PALLET is QUEUED", x.pallet(1, 10), MarketHall.QUEUED);
        Check.due("that PALLET is STORED", x.pallet(0, 10), MarketHall.STORED);
    }

    private static void sixtyParcels() {
        MarketHall x = Given.open();
        int left = 0;
        for (int n = 0; n < 24; n++) {
            x.order(0, 0, 3, 1, 100, Given.EVERY_DAY);
        }
        for (int day = 0; day < 3; day++) {
            x.queue(0, Given.graded(x, 30), 100, 100);
            left = x.takings(0, 1, 1);
            x.pass(24);
        }
        Check.due("the last ones", left, 12);
        Check.due("no more than 60 PARCELS", x.sum(12), 60);
        Check.due("none is a TAKER any more", x.taker(2, 1), -1);
        Check.due("an ORDER ASKS yet", x.ordered(23, 9), 1);
        Check.due("isSound(0)", x.isSound(0), true);
    }

    private static void handIsTold() {
        MarketHall x = Given.open();
        Given.sold(x, 0, 5, 100);
        Given.sold(x, 0, 6, 200);
        int[] due = {0, 6, 6, 10, 0, 0, 200, 1, 2, 2, 11, 1700, 1};
        for (int what = 0; what < due.length; what++) {
            Check.due("hand(0, " + what + ")", x.hand(0, what), due[what]);
        }
        Check.index("no such CLOCK", () -> x.hand(1, 13));
        Check.index("no such CLOCK", () -> x.hand(-1, 0));
        Check.range("what 13", () -> x.hand(0, 13));
        Check.range("what -1", () -> x.hand(0, -1));
    }

    private static void lots() {
        MarketHall x = Given.open();
        Check.index("no LOT", () -> x.lot(0, 0, 0));
        x.deliver(0, 0, 5, 300, 0);
        x.queue(0, x.deliver(0, 0, 5, 300, 0), 70, 30);
        Check.due("its PALLET", x.lot(0, 0, 0), 1);
        Check.due("its START", x.lot(0, 0, 1), 70);
        Check.due("its RESERVE", x.lot(0, 0, 2), 30);
        Check.index("no such CLOCK", () -> x.lot(1, 0, 0));
        Check.index("no such CLOCK", () -> x.lot(-1, 0, 0));
        Check.index("no such place", () -> x.lot(0, 1, 3));
        Check.index("no such place", () -> x.lot(0, -1, 0));
        Check.range("what 3", () -> x.lot(0, 0, 3));
        Check.range("what -1", () -> x.lot(0, 0, -1));
    }

    private static void takings() {
        MarketHall x = Given.open();
        for (int what = 0; what < 4; what++) {
            Check.due("takings without LOTS", x.takings(0, 12, what), 0);
        }
        Check.due("HAND without LOTS", x.takings(0, 12, 4), -1);
        Given.sold(x, 0, 3, 70);
        int parcels = x.sum(12);
        x.order(0, 0, 3, 8, 100, Given.EVERY_DAY);
        x.queue(0, Given.graded(x, 5), 100, 50);
        x.queue(0, Given.graded(x, 6), 150, 40);
        int[] first = {500, 1, 5, 1, 100};
        int[] both = {800, 2, 8, 1, 40};
        for (int what = 0; what < 5; what++) {
            Check.due("takings(0, 1, " + what + ")", x.takings(0, 1, what), first[what]);
            Check.due("takings(0, 2, " + what + ")", x.takings(0, 2, what), both[what]);
            Check.due("takings(0, 12, " + what + ")", x.takings(0, 12, what), both[what]);
        }
        Check.due("nothing was sold", x.sum(12), parcels);
        Check.index("no such CLOCK", () -> x.takings(1, 0, 0));
        Check.index("no such CLOCK", () -> x.takings(-1, 1, 0));
        Check.range("lots 0", () -> x.takings(0, 0, 0));
        Check.range("lots 13", () -> x.takings(0, 13, 0));
        Check.range("what 5", () -> x.takings(0, 1, 5));
        Check.range("what -1", () -> x.takings(0, 1, -1));
    }

    /** In still markets, in which the next HOUR is OPEN, TAKINGS are what is SOLD then. */
    private static void takingsAreWhatIsSold() {
        java.util.Random random = new java.util.Random(3);
        for (int turn = 0; turn < 60; turn++) {
            MarketHall x = rich(random, 1 + random.nextInt(6));
            int lots = x.hand(0, 5);
            int[] due = new int[5];
            for (int what = 0; what < 5; what++) {
                due[what] = x.takings(0, 12, what);
            }
            int worth = x.match(0);
            x.pass(1);
            Check.due("GROSS", x.hand(0, 11), due[0]);
            Check.due("PARCELS", x.hand(0, 9), due[1]);
            Check.due("CRATES", x.hand(0, 10), due[2]);
            Check.due("HAND", x.hand(0, 6), due[4]);
            Check.due("LOTS", x.hand(0, 8), lots);
            Check.due("no more than the WORTH of THE FILLING", due[0] <= worth, true);
            int last = x.hand(0, 7);
            Check.due("none is left who would take it", x.taker(last, x.hand(0, 6)), -1);
        }
    }

    private static MarketHall rich(java.util.Random random, int lots) {
        MarketHall x = Given.still();
        x.buyer(0, random.nextInt(4000), 0);
        x.buyer(1, 900000, 0);
        x.clock(0, 6, 6, 1 + random.nextInt(60), random.nextInt(10));
        for (int n = 0; n < 8; n++) {
            x.order(random.nextInt(2), 0, random.nextInt(4), 1 + random.nextInt(12), 50 + random.nextInt(300),
                    Given.EVERY_DAY);
        }
        for (int n = 0; n < lots; n++) {
            int pallet = x.deliver(0, 0, 1 + random.nextInt(20), 300, 1);
            x.grade(pallet, 1, random.nextInt(2), random.nextInt(65536));
            int start = 50 + random.nextInt(350);
            x.queue(0, pallet, start, Math.max(1, start - random.nextInt(200)));
        }
        return x;
    }

    private static void bestRow() {
        MarketHall x = Given.open();
        Check.index("no LOTS, a place", () -> x.bestRow(0, 0));
        Check.state("no LOTS", () -> x.bestRow(0, -1));
        x.order(0, 0, 3, 5, 100, Given.EVERY_DAY);
        x.queue(0, Given.graded(x, 5), 50, 50);
        x.queue(0, Given.graded(x, 5), 90, 50);
        x.queue(0, Given.graded(x, 5), 90, 80);
        Check.due("TAKINGS", x.bestRow(0, -1), 450);
        Check.due("first", x.bestRow(0, 0), 1);
        Check.due("then the least number", x.bestRow(0, 1), 0);
        Check.due("last", x.bestRow(0, 2), 2);
        Check.due("the row stays", x.lot(0, 0, 0), 0);
        Check.index("no such CLOCK", () -> x.bestRow(1, -1));
        Check.index("no such CLOCK", () -> x.bestRow(-1, -1));
        Check.index("no such place", () -> x.bestRow(0, 3));
        Check.index("no such place", () -> x.bestRow(0, -2));
        for (int n = 0; n < 3; n++) {
            x.queue(0, x.deliver(0, 0, 5, 300, 0), 90, 80);
        }
        Check.state("6 LOTS", () -> x.bestRow(0, 5));
        Check.index("6 LOTS, no such place", () -> x.bestRow(0, 6));
        x.withdraw(0);
        Check.due("5 LOTS", x.bestRow(0, -1), 450);
        Check.due("no GRADE, so the least numbers", x.bestRow(0, 4), 5);
        MarketHall y = Given.open();
        for (int n = 0; n < 3; n++) {
            y.deliver(0, 0, 5, 300, 0);
        }
        for (int n = 2; n >= 0; n--) {
            y.queue(0, n, 90, 80);
        }
        for (int place = 0; place < 3; place++) {
            Check.due("none brings anything, so the least numbers", y.bestRow(0, place), place);
        }
        Check.due("no TAKINGS", y.bestRow(0, -1), 0);
    }

    /** Each row is queued anew on an image. */
    private static void bestRowAgainstAllRows() {
        java.util.Random random = new java.util.Random(11);
        for (int turn = 0; turn < 12; turn++) {
            int lots = 2 + random.nextInt(3);
            MarketHall x = rich(random, lots);
            int[][] row = new int[lots][3];
            for (int place = 0; place < lots; place++) {
                for (int what = 0; what < 3; what++) {
                    row[place][what] = x.lot(0, place, what);
                }
            }
            List<List<Integer>> rows = new ArrayList<>();
            addRows(rows, new ArrayList<>(), lots);
            int most = -1;
            List<Integer> best = null;
            for (List<Integer> one : rows) {
                x.keep(0);
                for (int[] lot : row) {
                    x.withdraw(lot[0]);
                }
                for (int n : one) {
                    x.queue(0, row[n][0], row[n][1], row[n][2]);
                }
                int takings = x.takings(0, 12, 0);
                if (takings > most) {
                    most = takings;
                    best = one;
                }
                x.again(0);
            }
            Check.due("TAKINGS of the BEST ROW", x.bestRow(0, -1), most);
            for (int place = 0; place < lots; place++) {
                Check.due("BEST ROW at " + place, x.bestRow(0, place), row[best.get(place)][0]);
            }
        }
    }

    private static void addRows(List<List<Integer>> rows, List<Integer> begun, int many) {
        if (begun.size() == many) {
            rows.add(new ArrayList<>(begun));
        }
        for (int n = 0; n < many; n++) {
            if (!begun.contains(n)) {
                begun.add(n);
                addRows(rows, begun, many);
                begun.remove(begun.size() - 1);
            }
        }
    }

    private static void bestStart() {
        MarketHall x = Given.open();
        x.order(0, 0, 3, 5, 100, Given.EVERY_DAY);
        int pallet = Given.graded(x, 5);
        Check.due("the least of the best", x.bestStart(0, pallet, 7, 0), 97);
        Check.due("its TAKINGS", x.bestStart(0, pallet, 7, 1), 485);
        x.order(0, 0, 3, 5, 2001, Given.EVERY_DAY);
        Check.due("200 STEPS above it", x.bestStart(0, pallet, 1, 0), 2001);
        x.cancel(1);
        Check.due("a RESERVE that none gives", x.bestStart(0, pallet, 101, 0), 101);
        Check.due("its TAKINGS", x.bestStart(0, pallet, 101, 1), 0);
        Check.due("the highest RESERVE", x.bestStart(0, pallet, 9999, 0), 9999);
        x.queue(0, pallet, 10, 10);
        Check.due("QUEUED or not", x.bestStart(0, pallet, 7, 0), 97);
        int other = x.deliver(0, 0, 1, 300, 0);
        Check.due("without a GRADE", x.bestStart(0, other, 5, 0), 5);
        Check.index("no such CLOCK", () -> x.bestStart(1, 0, 0, 0));
        Check.index("no such CLOCK", () -> x.bestStart(-1, 0, 1, 0));
        Check.index("no such PALLET", () -> x.bestStart(0, 2, 1, 2));
        Check.index("no such PALLET", () -> x.bestStart(0, -1, 1, 0));
        Check.range("reserve 0", () -> x.bestStart(0, 0, 0, 0));
        Check.range("reserve 10000", () -> x.bestStart(0, 0, 10000, 0));
        Check.range("what 2", () -> x.bestStart(0, 0, 1, 2));
        Check.range("what -1", () -> x.bestStart(0, 0, 1, -1));
        x.dump(other);
        Check.state("no CRATES", () -> x.bestStart(0, other, 1, 0));
        Check.range("no CRATES, what out of range", () -> x.bestStart(0, other, 1, 2));
    }

    /** Each START is queued on an image, as the one LOT. */
    private static void bestStartAgainstAllStarts() {
        java.util.Random random = new java.util.Random(5);
        for (int turn = 0; turn < 12; turn++) {
            MarketHall x = rich(random, 1);
            x.withdraw(0);
            int reserve = 1 + random.nextInt(turn % 3 == 0 ? 9999 : 300);
            int step = x.hand(0, 3);
            int most = -1;
            int best = -1;
            for (int start = reserve; start <= Math.min(9999, reserve + 200 * step); start += step) {
                x.queue(0, 0, start, reserve);
                if (x.takings(0, 1, 0) > most) {
                    most = x.takings(0, 1, 0);
                    best = start;
                }
                x.undo();
            }
            Check.due("BEST START", x.bestStart(0, 0, reserve, 0), best);
            Check.due("its TAKINGS", x.bestStart(0, 0, reserve, 1), most);
        }
    }
}
