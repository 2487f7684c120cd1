/** Promises 25 to 29: tariff, account, entry, owed, quarrel, quarrelled, blame, shares; and how a DAY is closed. */
public final class BooksTest {
    private static final int GROWER = 0, HALL = 1, CARRIER = 2, AWARD = 3;

    public static void main(String[] args) {
        tariffs();
        accountsAreRefused();
        soldIsEntered();
        entriesAreKept();
        entryOfNothing();
        owed();
        paidOutOnWeekdaySix();
        resultOfADay();
        resultOfOneCent();
        quarrels();
        quarrelIsRefused();
        twelveQuarrels();
        quarrelsAreJudged();
        awardGoesBack();
        blameForNotFine();
        blameForBadCrates();
        blameForHarm();
        blameForBeingLate();
        blameIsRefused();
        shares();
        sharesIsRefused();
        Check.end();
    }

    private static MarketHall market() {
        MarketHall x = Given.open();
        x.truck(99, 4);
        return x;
    }

    /** A PARCEL is LOADED now, and is COME in TOWN 1 by 4 HOURS from now on. */
    private static void bring(MarketHall x, int parcel) {
        x.load(parcel, 0);
        x.send(0, x.sum(0) + 1);
        x.pass(4);
    }

    private static void tariffs() {
        MarketHall x = new MarketHall();
        Check.due("tariff", x.tariff(0, 99999), 50);
        Check.due("tariff", x.tariff(0, 0), 99999);
        Check.due("tariff", x.tariff(1, 1), 120);
        Check.due("tariff", x.tariff(2, 2), 400);
        Check.due("tariff", x.tariff(3, 3), 2500);
        Check.due("tariff", x.tariff(3, 4), 3);
        Check.range("which -1", () -> x.tariff(-1, 0));
        Check.range("which 4", () -> x.tariff(4, 0));
        Check.range("cents -1", () -> x.tariff(0, -1));
        Check.range("cents 100000", () -> x.tariff(0, 100000));
    }

    private static void accountsAreRefused() {
        MarketHall x = new MarketHall();
        Check.due("RESULT", x.account(9), 0);
        Check.range("account -1", () -> x.account(-1));
        Check.range("account 10", () -> x.account(10));
    }

    /** A CUT of 10 of a GROSS of 7 * 33: the FEE is 23. */
    private static void soldIsEntered() {
        MarketHall x = Given.open();
        Given.sold(x, 0, 7, 33);
        int[][] due = {{3, 2, 23, 0, 1}, {2, 1, 231, 0, 1}, {0, 6, 50, 0, 0}};
        for (int back = 0; back < 3; back++) {
            for (int what = 0; what < 5; what++) {
                Check.due("entry(" + back + ", " + what + ")", x.entry(back, what), due[back][what]);
            }
        }
        int[] accounts = {-50, 231, -208, -23, 0, 0, 50, 0, 0, 0};
        for (int account = 0; account < 10; account++) {
            Check.due("account " + account, x.account(account), accounts[account]);
        }
        Check.index("only three ENTRIES", () -> x.entry(3, 5));
        Check.index("back -1", () -> x.entry(-1, 0));
        Check.range("what 5", () -> x.entry(0, 5));
        Check.range("what -1", () -> x.entry(0, -1));
    }

    private static void entriesAreKept() {
        MarketHall x = new MarketHall();
        x.buyer(0, 0, 0);
        for (int n = 1; n <= 75; n++) {
            x.pay(0, n);
        }
        for (int back = 0; back < 60; back++) {
            Check.due("cents of entry " + back, x.entry(back, 2), 75 - back);
        }
        Check.index("60 are kept", () -> x.entry(60, 0));
        Check.due("what the others did stays", x.account(0), 75 * 76 / 2);
    }

    private static void entryOfNothing() {
        MarketHall x = Given.sortAndGrower();
        x.tariff(0, 0);
        x.deliver(0, 0, 5, 300, 0);
        x.grade(0, 5, 0, 0);
        Check.index("one of 0 cents is not made", () -> x.entry(0, 0));
        x.pass(24);
        Check.index("nothing to close", () -> x.entry(0, 0));
        MarketHall y = new MarketHall();
        y.sort(1, 0, 0, 300, 60);
        y.grower(0, 0);
        y.buyer(0, 999, 0);
        y.clock(0, 6, 6, 1, 0);
        Given.sold(y, 0, 5, 100);
        Check.due("without a FEE the GROSS alone", y.entry(0, 1), 1);
    }

    private static void owed() {
        MarketHall x = market();
        x.grower(25, 0);
        Given.sold(x, 0, 7, 33);
        Given.sold(x, 0, 10, 30);
        x.dump(1);
        int[] due = {208 + 270, 531, 53, 0, 0};
        for (int what = 0; what < 5; what++) {
            Check.due("owed(0, " + what + ")", x.owed(0, what), due[what]);
            Check.due("owed(1, " + what + ")", x.owed(1, what), 0);
        }
        Check.index("no such GROWER", () -> x.owed(2, 5));
        Check.index("no such GROWER", () -> x.owed(-1, 0));
        Check.range("what 5", () -> x.owed(0, 5));
        Check.range("what -1", () -> x.owed(0, -1));
    }

    private static void paidOutOnWeekdaySix() {
        MarketHall x = market();
        x.grower(0, 0);
        Given.sold(x, 0, 10, 100);
        x.pass(71);
        x.pass(72);
        x.pass(23);
        Check.due("DUE up to the end of DAY 6", x.owed(0, 0), 900);
        Check.due("at 167", x.sum(0), 167);
        x.pass(1);
        Check.due("DUE", x.owed(0, 0), 0);
        Check.due("paid out", x.owed(0, 4), 900);
        Check.due("GROWERS", x.account(2), 0);
        Check.due("CASH", x.account(0), -950);
        Check.due("from CASH", x.entry(0, 0), 0);
        Check.due("to GROWERS", x.entry(0, 1), 2);
        Check.due("for none", x.entry(0, 3), -1);
        Check.due("nothing to the other one", x.owed(1, 4), 0);
    }

    private static void resultOfADay() {
        MarketHall x = market();
        x.room(1, 9, 0);
        x.set(0, 40);
        Given.sold(x, 0, 10, 100);
        x.pass(23);
        for (int account = 3; account <= 8; account++) {
            Check.due("account " + account, x.account(account), 0);
        }
        int[][] due = {{6, 9, 50}, {4, 9, 480}, {9, 3, 100}, {0, 4, 480}};
        for (int back = 0; back < due.length; back++) {
            for (int what = 0; what < 3; what++) {
                Check.due("entry(" + back + ", " + what + ")", x.entry(back, what), due[back][what]);
            }
            Check.due("for none", x.entry(back, 3), -1);
            Check.due("at the end of the DAY", x.entry(back, 4), 24);
        }
        Check.due("RESULT", x.account(9), 50 + 480 - 100);
        Check.due("isSound(7)", x.isSound(7), true);
    }

    private static void resultOfOneCent() {
        MarketHall x = Given.sortAndGrower();
        x.tariff(0, 1);
        x.deliver(0, 0, 5, 300, 0);
        x.grade(0, 1, 0, 0);
        x.pass(24);
        Check.due("SAMPLES", x.account(6), 0);
        Check.due("RESULT", x.account(9), 1);
        Check.index("no more than two ENTRIES", () -> x.entry(2, 0));
    }

    private static void quarrels() {
        MarketHall x = market();
        bring(x, Given.sold(x, 0, 10, 100));
        Check.due("quarrel", x.quarrel(0, 2), 0);
        int[] due = {0, 2, 0, 0, 0, 0, 0, 5};
        for (int what = 0; what < due.length; what++) {
            Check.due("quarrelled(0, " + what + ")", x.quarrelled(0, what), due[what]);
        }
        Check.index("no such QUARREL", () -> x.quarrelled(1, 8));
        Check.index("no such QUARREL", () -> x.quarrelled(-1, 0));
        Check.range("what 8", () -> x.quarrelled(0, 8));
        Check.range("what -1", () -> x.quarrelled(0, -1));
    }

    private static void quarrelIsRefused() {
        MarketHall x = market();
        int parcel = Given.sold(x, 0, 10, 100);
        Check.index("no such PARCEL", () -> x.quarrel(1, 4));
        Check.index("no such PARCEL", () -> x.quarrel(-1, 0));
        Check.range("cause -1", () -> x.quarrel(parcel, -1));
        Check.range("cause 4", () -> x.quarrel(parcel, 4));
        Check.state("it is WAITING", () -> x.quarrel(parcel, 0));
        bring(x, parcel);
        Check.due("DONE", x.parcel(parcel, 17), 5);
        x.keep(0);
        x.pass(48);
        Check.due("48 HOURS ago", x.quarrel(parcel, 0), 0);
        Check.state("there is one about it", () -> x.quarrel(parcel, 1));
        x.again(0);
        x.pass(49);
        Check.state("49 HOURS ago", () -> x.quarrel(parcel, 0));
        int lost = Given.sold(x, 0, 10, 100);
        x.dump(1);
        Check.state("it is LOST", () -> x.quarrel(lost, 0));
    }

    private static void twelveQuarrels() {
        MarketHall x = market();
        for (int n = 0; n < 13; n++) {
            x.load(Given.sold(x, 0, 1, 100), 0);
        }
        x.send(0, x.sum(0) + 1);
        x.pass(4);
        for (int n = 0; n < 12; n++) {
            Check.due("quarrel", x.quarrel(n, 0), n);
        }
        Check.state("a 13th QUARREL", () -> x.quarrel(12, 0));
    }

    /** The first one is FINE; the second one is harmed in the TRUCK for 8 HOURS: 8 / 24 of 1000. */
    private static void quarrelsAreJudged() {
        MarketHall x = market();
        x.truck(40, 0);
        x.buyer(2, 900000, 0);
        bring(x, Given.sold(x, 0, 10, 100));
        int harmed = Given.sold(x, 1, 10, 100);
        x.load(harmed, 1);
        x.send(1, x.sum(0) + 5);
        x.pass(8);
        x.quarrel(0, 0);
        x.quarrel(harmed, 2);
        int harm = x.parcel(harmed, 12);
        Check.due("HARM", harm, 7);
        int due = x.owed(0, 0);
        x.pass(24 - x.sum(0) % 24);
        int[] dismissed = {0, 0, 1, 0, 0, 0, 0};
        int[] upheld = {1, 2, 2, 291, 0, 0, 291};
        for (int what = 0; what < 7; what++) {
            Check.due("quarrelled(0, " + what + ")", x.quarrelled(0, what), dismissed[what]);
            Check.due("quarrelled(1, " + what + ")", x.quarrelled(1, what), upheld[what]);
        }
        Check.due("the GROWER bears nothing", x.owed(0, 0), due);
        Check.due("GIVEN BACK", x.owes(1, 13), 291);
        x.pass(24);
        Check.due("judged but once", x.owes(1, 13), 291);
    }

    /** Of 10 CRATES 4 are BAD: 400 of 1000 cents, borne by the GROWER; 700 were paid, so 300 are UNPAID. */
    private static void awardGoesBack() {
        MarketHall x = market();
        x.buyer(1, 900000, 0);
        int order = x.order(1, 0, 3, 10, 100, Given.EVERY_DAY);
        int pallet = x.deliver(0, 0, 10, 300, 4);
        x.grade(pallet, 10, 4, 0);
        x.queue(0, pallet, 100, 100);
        x.pass(1);
        x.cancel(order);
        x.pay(1, 700);
        bring(x, 0);
        x.pass(20);
        Check.due("paid by 700", x.parcel(0, 19), 300);
        x.quarrel(0, 1);
        x.pass(23);
        Check.due("UNPAID", x.parcel(0, 19), 0);
        Check.due("the rest is in the PURSE", x.owes(1, 3), 100);
        Check.due("GIVEN BACK", x.owes(1, 13), 400);
        Check.due("DUE", x.owed(0, 0), 900 - 400);
        Check.due("SHARES borne", x.owed(0, 3), 400);
        int[][] due = {{8, 2, 400, 0}, {1, 8, 400, 0}};
        for (int back = 0; back < 2; back++) {
            for (int what = 0; what < 4; what++) {
                Check.due("entry(" + back + ", " + what + ")", x.entry(back, what), due[back][what]);
            }
        }
        Check.due("isSound(0)", x.isSound(0), true);
    }

    /** PRIME 300: SOLD at 310, LOADED at 340, COME at 364: 10, 30 and 24 parts of a third of 1000, as it is SOFT. */
    private static void blameForNotFine() {
        MarketHall x = new MarketHall();
        x.sort(8, 0, 0, 300, 25);
        x.grower(0, 0);
        x.buyer(1, 900000, 0);
        x.clock(0, 6, 6, 10, 0);
        x.truck(40, 6);
        x.outside(0, 10);
        int order = x.order(0, 0, 3, 10, 100, Given.EVERY_DAY);
        x.deliver(0, 0, 10, 300, 0);
        x.grade(0, 1, 0, 0);
        x.queue(0, 0, 100, 100);
        x.pass(1);
        x.cancel(order);
        Check.due("RIPE as it was SOLD", x.parcel(0, 8), 310);
        x.pass(3);
        x.load(0, 0);
        x.send(0, 6);
        x.pass(6);
        Check.due("RIPE", x.parcel(0, 11), 364);
        int[] due = {52, 156, 125, 333};
        for (int who = 0; who <= AWARD; who++) {
            Check.due("blame(0, 0, " + who + ")", x.blame(0, 0, who), due[who]);
        }
        MarketHall y = market();
        bring(y, Given.sold(y, 0, 10, 100));
        Check.due("it is FINE", y.blame(0, 0, AWARD), 0);
        for (int ripe : new int[] {100, 500}) {
            MarketHall z = market();
            int first = z.deliver(0, 0, 10, ripe, 0);
            z.grade(first, 1, 0, 0);
            int all = z.order(0, 0, 3, 10, 100, Given.EVERY_DAY);
            z.queue(0, first, 100, 100);
            z.pass(1);
            z.cancel(all);
            bring(z, 0);
            Check.due("AWARD, GREEN or ROTTEN", z.blame(0, 0, AWARD), ripe == 100 ? 333 : 1000);
            Check.due("the GROWER bears it", z.blame(0, 0, GROWER), ripe == 100 ? 333 : 1000);
            Check.due("THE HALL does not", z.blame(0, 0, HALL), 0);
        }
    }

    /** More than 5, 15, 30 or 60 of 100, by the GRADE: a row has that, CRATES, BAD, and whether there is an AWARD. */
    private static void blameForBadCrates() {
        int[][] due = {{0, 20, 1, 0}, {0, 17, 1, 1}, {1, 20, 3, 0}, {1, 19, 3, 1}, {2, 20, 6, 0}, {2, 13, 4, 1},
            {3, 20, 12, 0}, {3, 23, 14, 1}, {0, 20, 0, 0}};
        for (int[] one : due) {
            MarketHall x = market();
            int crates = one[1];
            int pallet = x.deliver(0, 0, crates, 300, one[2]);
            for (int seed = 0; x.pallet(pallet, 9) != one[0]; seed++) {
                int sample = one[0] == 0 ? 1 : 2 + seed % (Math.min(20, crates) - 1);
                x.grade(pallet, sample, seed % 10, seed * 131);
            }
            int order = x.order(0, 0, 3, crates, 100, Given.EVERY_DAY);
            x.queue(0, pallet, 100, 100);
            x.pass(1);
            x.cancel(order);
            bring(x, 0);
            int award = one[3] * 100 * crates * one[2] / crates;
            Check.due("AWARD with GRADE " + one[0] + ", BAD " + one[2] + " of " + crates, x.blame(0, 1, AWARD), award);
            Check.due("the GROWER bears it", x.blame(0, 1, GROWER), award);
            Check.due("the carrier does not", x.blame(0, 1, CARRIER), 0);
        }
    }

    private static void blameForHarm() {
        for (int wait = 0; wait <= 30; wait++) {
            MarketHall x = market();
            x.truck(40, 0);
            int parcel = Given.sold(x, 0, 10, 100);
            x.outside(0, 0);
            x.outside(1, 0);
            x.pass(1 + wait);
            x.load(parcel, 1);
            x.send(1, x.sum(0) + 1);
            x.pass(4);
            int harm = 1 + wait + 3;
            int award = harm < 6 ? 0 : 1000 * Math.min(24, harm) / 24;
            Check.due("HARM", x.parcel(parcel, 12), harm);
            Check.due("AWARD", x.blame(parcel, 2, AWARD), award);
            for (int who = 0; who < 3; who++) {
                Check.due("SHARES", x.blame(parcel, 2, who), x.shares(award, 0, 1 + wait, 3, who));
            }
        }
    }

    private static void blameForBeingLate() {
        for (int wait : new int[] {1, 43, 44, 45, 70}) {
            MarketHall x = market();
            int parcel = Given.sold(x, 0, 10, 101);
            x.pass(wait);
            bring(x, parcel);
            int hours = wait + 4;
            int award = hours > 48 ? 252 : 0;
            Check.due("DONE behind SOLD", x.parcel(parcel, 17) - x.parcel(parcel, 6), hours);
            Check.due("AWARD", x.blame(parcel, 3, AWARD), award);
            for (int who = 0; who < 3; who++) {
                Check.due("SHARES", x.blame(parcel, 3, who), x.shares(award, 0, wait, 4, who));
            }
        }
    }

    private static void blameIsRefused() {
        MarketHall x = market();
        int parcel = Given.sold(x, 0, 10, 100);
        Check.index("no such PARCEL", () -> x.blame(1, 4, 0));
        Check.index("no such PARCEL", () -> x.blame(-1, 0, 0));
        Check.range("cause 4", () -> x.blame(parcel, 4, 0));
        Check.range("cause -1", () -> x.blame(parcel, -1, 0));
        Check.range("who 4", () -> x.blame(parcel, 0, 4));
        Check.range("who -1", () -> x.blame(parcel, 0, -1));
        Check.state("it is WAITING", () -> x.blame(parcel, 0, 0));
        bring(x, parcel);
        Check.due("nobody did any HARM", x.blame(parcel, 2, HALL), 0);
    }

    private static void shares() {
        MarketHall x = new MarketHall();
        int[][] due = {{100, 1, 1, 1, 34, 33, 33}, {101, 1, 1, 1, 34, 34, 33}, {0, 1, 2, 3, 0, 0, 0},
            {10, 0, 0, 7, 0, 0, 10}, {10, 1, 2, 4, 1, 3, 6}, {5, 2, 1, 1, 3, 1, 1}, {999999, 999, 999, 999, 333333, 333333, 333333},
            {999999, 999, 998, 997, 333667, 333333, 332999}, {1, 1, 1, 0, 1, 0, 0}, {1, 1, 2, 2, 0, 1, 0}};
        for (int[] one : due) {
            for (int who = 0; who < 3; who++) {
                Check.due("shares of " + one[0] + " for " + who, x.shares(one[0], one[1], one[2], one[3], who), one[4 + who]);
            }
        }
    }

    private static void sharesIsRefused() {
        MarketHall x = new MarketHall();
        Check.range("cents -1", () -> x.shares(-1, 1, 1, 1, 0));
        Check.range("cents 1000000", () -> x.shares(1000000, 1, 1, 1, 0));
        Check.range("first -1", () -> x.shares(1, -1, 1, 1, 0));
        Check.range("first 1000", () -> x.shares(1, 1000, 1, 1, 0));
        Check.range("second -1", () -> x.shares(1, 1, -1, 1, 0));
        Check.range("second 1000", () -> x.shares(1, 1, 1000, 1, 0));
        Check.range("third -1", () -> x.shares(1, 1, 1, -1, 0));
        Check.range("third 1000", () -> x.shares(1, 1, 1, 1000, 0));
        Check.range("all are 0", () -> x.shares(1, 0, 0, 0, 0));
        Check.range("who -1", () -> x.shares(1, 1, 1, 1, -1));
        Check.range("who 3", () -> x.shares(1, 1, 1, 1, 3));
    }
}
