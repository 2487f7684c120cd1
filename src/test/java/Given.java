/** Markets to begin tests from. */
final class Given {
    static final int EVERY_DAY = 127;

    private Given() {
    }

    /** A SORT that is FINE from 240 to 360, ripens by PACE 3 above 4 and is harmed below 4, and a GROWER with a CUT of 10. */
    static MarketHall sortAndGrower() {
        MarketHall x = new MarketHall();
        x.sort(3, 4, 4, 300, 60);
        x.grower(10, 5);
        return x;
    }

    /** As it is 4 OUTSIDE on all DAYS, nothing ripens and nothing is harmed, where nothing else is told. */
    static MarketHall still() {
        MarketHall x = sortAndGrower();
        for (int day = 0; day < 28; day++) {
            x.outside(day, 4);
        }
        return x;
    }

    /** A PALLET that is FINE, without BAD CRATES, with the GRADE 0. */
    static int graded(MarketHall x, int crates) {
        int pallet = x.deliver(0, 0, crates, 300, 0);
        x.grade(pallet, 1, 0, 0);
        return pallet;
    }

    /**
     * A still market with a rich BUYER 0 in TOWN 1, TERM 3, and a CLOCK that is OPEN in all HOURS from 0 to 5, sells
     * 6 LOTS in one, with a STEP of 10 and a RISE of 0.
     */
    static MarketHall open() {
        MarketHall x = still();
        x.buyer(1, 9000000, 3);
        x.clock(0, 6, 6, 10, 0);
        return x;
    }

    /**
     * A PALLET of so many CRATES is sold at a price to an ORDER of a BUYER alone, in the next HOUR in which CLOCK 0 of
     * an open market is OPEN; answers the PARCEL.
     */
    static int sold(MarketHall x, int buyer, int crates, int price) {
        int pallet = graded(x, crates);
        int order = x.order(buyer, 0, 0, crates, price, EVERY_DAY);
        x.queue(0, pallet, price, price);
        int hour = x.sum(0) % 24;
        x.pass(hour < 5 ? 1 : 24 - hour);
        x.cancel(order);
        return x.sum(12) - 1;
    }
}
