/** Promises 10 to 14: buyer, order, cancel, pay, owes, ordered, taker, match. */
public final class BuyersTest {

    public static void main(String[] args) {
        buyers();
        orders();
        ordersAreRefused();
        cancels();
        pays();
        owes();
        billsAreSettled();
        billsByPayday();
        billOfOneCent();
        blockedBuyerAsksNothing();
        lostParcels();
        lostParcelOfCancelledOrder();
        wantedIsAskedAgain();
        ordered();
        taker();
        takerByLeft();
        takerIsRefused();
        match();
        matchIsRefused();
        matchAgainstAllFillings();
        Check.end();
    }

    private static void buyers() {
        MarketHall x = new MarketHall();
        Check.index("no such TOWN", () -> x.buyer(-1, -1, 0));
        Check.index("no such TOWN", () -> x.buyer(5, 0, 0));
        Check.range("credit -1", () -> x.buyer(0, -1, 0));
        Check.range("credit 10000000", () -> x.buyer(0, 10000000, 0));
        Check.range("term -1", () -> x.buyer(0, 0, -1));
        Check.range("term 15", () -> x.buyer(0, 0, 15));
        for (int n = 0; n < 8; n++) {
            Check.due("buyer", x.buyer(4, 9999999, 14), n);
        }
        Check.state("a ninth BUYER", () -> x.buyer(0, 0, 0));
        Check.range("a ninth BUYER out of range", () -> x.buyer(0, 0, 15));
        int[] due = {4, 9999999, 14, 0, 0, 9999999, 0, 0, 0, 0, 0, 0, 0, 0, 0};
        for (int what = 0; what < due.length; what++) {
            Check.due("owes(7, " + what + ")", x.owes(7, what), due[what]);
        }
    }

    private static void orders() {
        MarketHall x = Given.sortAndGrower();
        x.buyer(0, 100, 0);
        for (int n = 0; n < 24; n++) {
            Check.due("order", x.order(0, 0, 3, 99, 9999, 127), n);
        }
        Check.state("a 25th ORDER", () -> x.order(0, 0, 0, 1, 1, 1));
        Check.range("a 25th ORDER out of range", () -> x.order(0, 0, 0, 1, 1, 0));
        int[] due = {0, 0, 3, 99, 9999, 127, 99, 0, 0, 1};
        for (int what = 0; what < due.length; what++) {
            Check.due("ordered(23, " + what + ")", x.ordered(23, what), due[what]);
        }
        Check.due("its BUYER has", x.owes(0, 14), 24);
        x.cancel(3);
        Check.due("cancelled ones count", x.owes(0, 14), 24);
    }

    private static void ordersAreRefused() {
        MarketHall x = Given.sortAndGrower();
        x.buyer(0, 100, 0);
        Check.index("no such BUYER", () -> x.order(1, 0, 9, 1, 1, 1));
        Check.index("no such BUYER", () -> x.order(-1, 0, 0, 1, 1, 1));
        Check.index("no such SORT", () -> x.order(0, 1, 0, 1, 1, 1));
        Check.index("no such SORT", () -> x.order(0, -1, 0, 0, 1, 1));
        Check.range("worst -1", () -> x.order(0, 0, -1, 1, 1, 1));
        Check.range("worst 4", () -> x.order(0, 0, 4, 1, 1, 1));
        Check.range("crates 0", () -> x.order(0, 0, 0, 0, 1, 1));
        Check.range("crates 100", () -> x.order(0, 0, 0, 100, 1, 1));
        Check.range("limit 0", () -> x.order(0, 0, 0, 1, 0, 1));
        Check.range("limit 10000", () -> x.order(0, 0, 0, 1, 10000, 1));
        Check.range("weekdays 0", () -> x.order(0, 0, 0, 1, 1, 0));
        Check.range("weekdays 128", () -> x.order(0, 0, 0, 1, 1, 128));
        Check.due("order", x.order(0, 0, 0, 1, 1, 1), 0);
    }

    private static void cancels() {
        MarketHall x = Given.open();
        int order = x.order(0, 0, 3, 10, 100, Given.EVERY_DAY);
        x.queue(0, Given.graded(x, 4), 100, 100);
        x.pass(1);
        Check.due("cancel", x.cancel(order), 6);
        Check.due("WANTED", x.ordered(order, 6), 0);
        Check.due("it is cancelled", x.ordered(order, 7), 1);
        Check.due("its PARCEL stays", x.parcel(0, 9), MarketHall.WAITING);
        Check.state("cancel it again", () -> x.cancel(order));
        Check.index("no such ORDER", () -> x.cancel(1));
        Check.index("no such ORDER", () -> x.cancel(-1));
        x.pass(24);
        Check.due("WANTED stays 0", x.ordered(order, 6), 0);
    }

    private static void pays() {
        MarketHall x = new MarketHall();
        x.buyer(0, 0, 0);
        Check.index("no such BUYER", () -> x.pay(1, 0));
        Check.index("no such BUYER", () -> x.pay(-1, 1));
        Check.range("cents 0", () -> x.pay(0, 0));
        Check.range("cents 10000000", () -> x.pay(0, 10000000));
        for (int n = 1; n <= 10; n++) {
            Check.due("pay", x.pay(0, 9999999), n * 9999999);
        }
        Check.state("more than 99999999", () -> x.pay(0, 10));
        Check.due("just 99999999", x.pay(0, 9), 99999999);
        Check.state("one more", () -> x.pay(0, 1));
        Check.due("PAID IN", x.owes(0, 12), 99999999);
        Check.due("LEFT", x.owes(0, 5), 99999999);
        Check.due("CASH", x.account(0), 99999999);
        Check.due("BUYERS", x.account(1), -99999999);
        Check.due("from BUYERS", x.entry(0, 0), 1);
        Check.due("to CASH", x.entry(0, 1), 0);
        Check.due("cents", x.entry(0, 2), 9);
        Check.due("for none", x.entry(0, 3), -1);
    }

    private static void owes() {
        MarketHall x = Given.open();
        Given.sold(x, 0, 8, 100);
        Given.sold(x, 0, 5, 200);
        x.dump(1);
        x.truck(40, 5);
        x.load(0, 0);
        x.pay(0, 300);
        int[] due = {1, 9000000, 3, 300, 800, 8999500, 0, 0, 1, 13, 0, 5, 300, 0, 2};
        for (int what = 0; what < due.length; what++) {
            Check.due("owes(0, " + what + ")", x.owes(0, what), due[what]);
        }
        x.send(0, 3);
        x.pass(4);
        Check.due("it has got", x.owes(0, 10), 8);
        Check.index("no such BUYER", () -> x.owes(1, 15));
        Check.index("no such BUYER", () -> x.owes(-1, 0));
        Check.range("what 15", () -> x.owes(0, 15));
        Check.range("what -1", () -> x.owes(0, -1));
    }

    /** TERM 3: a BILL of DAY 0 has its PAYDAY on DAY 3, which is closed as DAY 4 begins. */
    private static void billsAreSettled() {
        MarketHall x = Given.open();
        Given.sold(x, 0, 8, 100);
        Check.due("PAYDAY", x.parcel(0, 20), 3);
        x.pay(0, 500);
        x.pass(72);
        x.pass(22);
        Check.due("at the end of DAY 3", x.parcel(0, 19), 800);
        Check.due("not over yet", x.owes(0, 6), 0);
        x.pass(1);
        Check.due("UNPAID", x.parcel(0, 19), 300);
        Check.due("PURSE", x.owes(0, 3), 0);
        Check.due("BLOCKED", x.owes(0, 7), 1);
        Check.due("UNPAID of the BILLS that are over", x.owes(0, 6), 300);
        x.pay(0, 1000);
        Check.due("it stays BLOCKED", x.owes(0, 7), 1);
        x.pass(24);
        Check.due("not BLOCKED any more", x.owes(0, 7), 0);
        Check.due("PURSE", x.owes(0, 3), 700);
        Check.due("no BILLS left", x.owes(0, 8), 0);
        Check.due("PAYDAY stays", x.parcel(0, 20), 3);
    }

    /** As the TERM of a BUYER never changes, its BILLS have their PAYDAYS in the order of their numbers. */
    private static void billsByPayday() {
        MarketHall x = Given.open();
        x.buyer(2, 9000000, 0);
        Given.sold(x, 1, 3, 100);
        Given.sold(x, 1, 4, 100);
        Given.sold(x, 0, 2, 100);
        x.pay(1, 500);
        x.pay(0, 50);
        x.pass(21);
        Check.due("the first BILL is paid first", x.parcel(0, 19), 0);
        Check.due("the second one as far as the PURSE goes", x.parcel(1, 19), 200);
        Check.due("it is BLOCKED", x.owes(1, 7), 1);
        Check.due("TERM 3 is not over", x.parcel(2, 19), 200);
        Check.due("its PURSE stays", x.owes(0, 3), 50);
        Check.due("it is not BLOCKED", x.owes(0, 7), 0);
    }

    private static void billOfOneCent() {
        MarketHall x = Given.open();
        x.buyer(2, 9000000, 0);
        Given.sold(x, 1, 1, 1);
        Given.sold(x, 0, 1, 1);
        x.pay(0, 1);
        x.pass(22);
        Check.due("one cent is enough to be BLOCKED", x.owes(1, 7), 1);
        Check.due("one BILL is open", x.owes(1, 8), 1);
        Check.due("it is over", x.owes(1, 6), 1);
        x.pay(1, 1);
        x.pass(24);
        Check.due("one cent is enough to be paid", x.owes(1, 7) + x.owes(1, 8), 0);
    }

    private static void blockedBuyerAsksNothing() {
        MarketHall x = Given.open();
        x.buyer(2, 9000000, 0);
        Given.sold(x, 1, 3, 100);
        int order = x.order(1, 0, 3, 5, 100, Given.EVERY_DAY);
        int pallet = Given.graded(x, 5);
        Check.due("it TAKES", x.taker(pallet, 100), order);
        x.pass(23);
        Check.due("it is BLOCKED", x.owes(1, 7), 1);
        Check.due("it does not ASK", x.ordered(order, 9), 0);
        Check.due("it TAKES nothing", x.taker(pallet, 1), -1);
        Check.due("none ASKS", x.match(2), 0);
    }

    private static void lostParcels() {
        MarketHall x = Given.open();
        x.buyer(2, 9000000, 0);
        int order = x.order(1, 0, 3, 9, 100, Given.EVERY_DAY);
        x.queue(0, Given.graded(x, 8), 100, 100);
        x.pass(1);
        x.pay(1, 300);
        x.pass(23);
        Check.due("UNPAID", x.owes(1, 4), 500);
        Check.due("WANTED is ASKED again", x.ordered(order, 6), 9);
        x.dump(0);
        Check.due("what was paid is in the PURSE", x.owes(1, 3), 300);
        Check.due("UNPAID", x.parcel(0, 19), 0);
        Check.due("LEFT", x.owes(1, 5), 9000300);
        Check.due("WANTED is ASKED at most", x.ordered(order, 6), 9);
        Check.due("LOST", x.owes(1, 11), 8);
        Check.due("from BUYERS", x.entry(0, 0), 1);
        Check.due("to LOSSES", x.entry(0, 1), 8);
        Check.due("GROSS", x.entry(0, 2), 800);
        Check.due("for its PALLET", x.entry(0, 3), 0);
        Check.due("isSound(3)", x.isSound(3), true);
        x.queue(0, Given.graded(x, 4), 100, 100);
        x.pass(1);
        Check.due("BLOCKED till the next DAY", x.sum(12), 1);
        x.pass(23);
        x.queue(0, 1, 100, 100);
        x.pass(1);
        x.dump(1);
        Check.due("WANTED is more by its CRATES", x.ordered(order, 6), 9);
    }

    private static void lostParcelOfCancelledOrder() {
        MarketHall x = Given.open();
        Given.sold(x, 0, 8, 100);
        x.dump(0);
        Check.due("WANTED of a cancelled ORDER", x.ordered(0, 6), 0);
        MarketHall y = Given.open();
        y.order(0, 0, 3, 20, 100, Given.EVERY_DAY);
        y.queue(0, Given.graded(y, 5), 100, 100);
        y.queue(0, Given.graded(y, 6), 100, 100);
        y.pass(1);
        y.dump(0);
        Check.due("WANTED of one that is not", y.ordered(0, 6), 14);
    }

    private static void wantedIsAskedAgain() {
        MarketHall x = Given.open();
        int everyDay = x.order(0, 0, 3, 3, 100, Given.EVERY_DAY);
        int secondDay = x.order(0, 0, 3, 3, 50, 0b0000010);
        int firstDay = x.order(0, 0, 3, 3, 60, 0b0000001);
        x.queue(0, Given.graded(x, 6), 100, 10);
        x.pass(1);
        Check.due("the ORDER with the greatest LIMIT", x.parcel(0, 2), everyDay);
        Check.due("then the one for TODAY", x.parcel(1, 2), firstDay);
        Check.due("one for another WEEKDAY does not ASK", x.ordered(secondDay, 9), 0);
        x.pass(23);
        Check.due("WANTED for TODAY", x.ordered(everyDay, 6), 3);
        Check.due("it ASKS now", x.ordered(secondDay, 9), 1);
        Check.due("WANTED for another DAY stays", x.ordered(firstDay, 6), 0);
        x.pass(72);
        x.pass(72);
        Check.due("a week later", x.ordered(firstDay, 6), 3);
    }

    private static void ordered() {
        MarketHall x = Given.open();
        int order = x.order(0, 0, 2, 30, 700, 3);
        x.queue(0, Given.graded(x, 12), 700, 700);
        x.pass(1);
        int[] due = {0, 0, 2, 30, 700, 3, 18, 0, 12, 1};
        for (int what = 0; what < due.length; what++) {
            Check.due("ordered(0, " + what + ")", x.ordered(order, what), due[what]);
        }
        x.dump(0);
        Check.due("LOST ones count", x.ordered(order, 8), 12);
        x.cancel(order);
        Check.due("a cancelled one does not ASK", x.ordered(order, 9), 0);
        Check.due("a cancelled one tells its LIMIT", x.ordered(order, 4), 700);
        Check.index("no such ORDER", () -> x.ordered(1, 10));
        Check.index("no such ORDER", () -> x.ordered(-1, 0));
        Check.range("what 10", () -> x.ordered(order, 10));
        Check.range("what -1", () -> x.ordered(order, -1));
    }

    private static void taker() {
        MarketHall x = Given.open();
        x.sort(1, 0, 0, 600, 10);
        int ungraded = x.deliver(0, 0, 5, 300, 0);
        int pallet = Given.graded(x, 5);
        Check.due("no ORDER", x.taker(pallet, 1), -1);
        x.order(0, 0, 0, 5, 100, Given.EVERY_DAY);
        int best = x.order(0, 0, 0, 5, 200, Given.EVERY_DAY);
        x.order(0, 0, 0, 5, 200, Given.EVERY_DAY);
        x.order(0, 1, 0, 5, 900, Given.EVERY_DAY);
        x.order(0, 0, 0, 5, 900, 0b1111110);
        Check.due("the greatest LIMIT, the least number", x.taker(pallet, 1), best);
        Check.due("at its LIMIT", x.taker(pallet, 200), best);
        Check.due("above it", x.taker(pallet, 201), -1);
        Check.due("without a GRADE", x.taker(ungraded, 1), -1);
        x.cancel(best);
        Check.due("a cancelled one TAKES nothing", x.taker(pallet, 200), best + 1);
        x.queue(0, pallet, 300, 300);
        Check.due("it may be QUEUED", x.taker(pallet, 100), best + 1);
        x.dump(pallet);
        Check.due("it is not THERE", x.taker(pallet, 100), -1);
        int bad = x.deliver(0, 0, 5, 300, 5);
        x.grade(bad, 1, 0, 0);
        Check.due("its GRADE is worse than the WORST", x.taker(bad, 100), -1);
        int any = x.order(0, 0, 2, 5, 10, Given.EVERY_DAY);
        Check.due("one with another WORST", x.taker(bad, 10), any);
    }

    private static void takerByLeft() {
        MarketHall x = Given.still();
        x.buyer(0, 250, 0);
        x.clock(0, 6, 6, 10, 0);
        int order = x.order(0, 0, 0, 9, 300, Given.EVERY_DAY);
        int pallet = Given.graded(x, 9);
        Check.due("LEFT is less than the price", x.taker(pallet, 251), -1);
        Check.due("LEFT is the price", x.taker(pallet, 250), order);
        x.queue(0, pallet, 100, 100);
        x.pass(1);
        Check.due("as many as LEFT is enough for", x.parcel(0, 3), 2);
        Check.due("LEFT then", x.owes(0, 5), 50);
        x.pay(0, 100);
        Check.due("its PURSE counts", x.taker(pallet, 150), order);
        Check.due("but no more", x.taker(pallet, 151), -1);
    }

    private static void takerIsRefused() {
        MarketHall x = Given.open();
        int pallet = Given.graded(x, 9);
        Check.index("no such PALLET", () -> x.taker(pallet + 1, 0));
        Check.index("no such PALLET", () -> x.taker(-1, 1));
        Check.range("price 0", () -> x.taker(pallet, 0));
        Check.range("price 10000", () -> x.taker(pallet, 10000));
        Check.due("price 9999", x.taker(pallet, 9999), -1);
    }

    private static void match() {
        MarketHall x = Given.open();
        Given.graded(x, 10);
        int worse = x.deliver(0, 0, 4, 400, 0);
        x.grade(worse, 1, 0, 0);
        x.deliver(0, 0, 30, 300, 0);
        x.order(0, 0, 0, 8, 100, Given.EVERY_DAY);
        x.order(0, 0, 3, 5, 100, Given.EVERY_DAY);
        x.order(0, 0, 2, 4, 300, Given.EVERY_DAY);
        x.order(0, 0, 1, 9, 90, Given.EVERY_DAY);
        x.order(0, 0, 3, 9, 500, 0b1000000);
        Check.due("CRATES for the greatest LIMIT", x.match(12), 4);
        Check.due("CRATES for the first of like ones", x.match(10), 8);
        Check.due("CRATES for the next of like ones", x.match(11), 2);
        Check.due("none are left for it", x.match(13), 0);
        Check.due("it does not ASK", x.match(14), 0);
        Check.due("CRATES, together", x.match(1), 14);
        Check.due("WORTH", x.match(0), 4 * 300 + 10 * 100);
        Check.due("how many ASK", x.match(2), 4);
        x.queue(0, 0, 1000, 1000);
        Check.due("QUEUED ones count", x.match(1), 14);
        x.dump(0);
        Check.due("the one that is left", x.match(12), 4);
        Check.due("it may have no worse ones", x.match(10), 0);
        Check.due("WORTH", x.match(0), 4 * 300);
    }

    private static void matchIsRefused() {
        MarketHall x = Given.open();
        Check.range("what 10 without ORDERS", () -> x.match(10));
        x.order(0, 0, 0, 8, 100, Given.EVERY_DAY);
        Check.due("what 10", x.match(10), 0);
        Check.range("what 11", () -> x.match(11));
        Check.range("what 3", () -> x.match(3));
        Check.range("what 9", () -> x.match(9));
        Check.range("what -1", () -> x.match(-1));
    }

    /** All FILLINGS of small markets are tried: what 4 ORDERS are given, if that can be had from 4 PALLETS. */
    private static void matchAgainstAllFillings() {
        java.util.Random random = new java.util.Random(7);
        for (int turn = 0; turn < 150; turn++) {
            MarketHall x = Given.open();
            x.sort(1, 0, 0, 300, 60);
            int[] grades = new int[4];
            int[] sorts = new int[4];
            int[] crates = new int[4];
            for (int n = 0; n < 4; n++) {
                sorts[n] = random.nextInt(4) / 3;
                crates[n] = 1 + random.nextInt(4);
                int pallet = x.deliver(0, sorts[n], crates[n], 300, crates[n]);
                grades[n] = random.nextInt(4);
                x.grade(pallet, 1, grades[n] > 1 ? 0 : 1, 1);
                if (grades[n] == 0 || grades[n] == 3) {
                    x.dump(pallet);
                    pallet = x.deliver(0, sorts[n], crates[n], grades[n] == 0 ? 300 : 999, 0);
                    x.grade(pallet, 1, 0, 1);
                }
                Check.due("the GRADE", x.pallet(pallet, 9), grades[n]);
            }
            int[][] orders = new int[4][];
            for (int n = 0; n < 4; n++) {
                orders[n] = new int[] {random.nextInt(4) / 3, random.nextInt(4), 1 + random.nextInt(4), 1 + random.nextInt(4)};
                x.order(0, orders[n][0], orders[n][1], orders[n][2], orders[n][3], Given.EVERY_DAY);
            }
            int[] best = fillByTrying(orders, sorts, grades, crates);
            Check.due("WORTH", x.match(0), best[4]);
            for (int n = 0; n < 4; n++) {
                Check.due("CRATES for ORDER " + n, x.match(10 + n), best[n]);
            }
        }
    }

    private static int[] fillByTrying(int[][] orders, int[] sorts, int[] grades, int[] crates) {
        int[] best = {0, 0, 0, 0, -1};
        for (int way = 0; way < 625; way++) {
            int[] given = {way / 125, way / 25 % 5, way / 5 % 5, way % 5};
            int worth = 0;
            boolean can = true;
            for (int n = 0; n < 4; n++) {
                can &= given[n] <= orders[n][2];
                worth += given[n] * orders[n][3];
            }
            if (can && worth >= best[4] && canGive(orders, sorts, grades, crates.clone(), given.clone(), 0)) {
                boolean better = worth > best[4];
                for (int n = 0; n < 4 && !better && given[n] >= best[n]; n++) {
                    better = given[n] > best[n];
                }
                if (better) {
                    best = new int[] {given[0], given[1], given[2], given[3], worth};
                }
            }
        }
        return best;
    }

    /** Gives CRATE by CRATE, going back where that ends. */
    private static boolean canGive(int[][] orders, int[] sorts, int[] grades, int[] crates, int[] given, int order) {
        if (order == 4) {
            return true;
        }
        if (given[order] == 0) {
            return canGive(orders, sorts, grades, crates, given, order + 1);
        }
        for (int n = 0; n < 4; n++) {
            if (crates[n] > 0 && sorts[n] == orders[order][0] && grades[n] <= orders[order][1]) {
                crates[n]--;
                given[order]--;
                boolean can = canGive(orders, sorts, grades, crates, given, order);
                crates[n]++;
                given[order]++;
                if (can) {
                    return true;
                }
            }
        }
        return false;
    }
}
