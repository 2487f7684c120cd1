/** Promises 18 to 22: way, docks, truck, load, send, haul, parcel, trip, fewest. */
public final class CarriersTest {

    public static void main(String[] args) {
        ways();
        docks();
        trucks();
        loads();
        loadIsRefused();
        palletIsCleared();
        palletWithMoreToWaitIsNot();
        sends();
        emptyTruckDoesNotGo();
        truckGoesRound();
        waysChangeBehindATruck();
        parcelsRipenInTrucks();
        truckBehindTheLastTime();
        haulIsTold();
        parcelIsTold();
        trips();
        tripsAgainstAllRows();
        fewest();
        fewestIsRefused();
        fewestAgainstAllPartings();
        Check.end();
    }

    /** BUYERS 0 to 4 in the TOWNS 0 to 4, and so many TRUCKS with a SPACE of 40 and a WARMTH of 4. */
    private static MarketHall market(int trucks) {
        MarketHall x = Given.still();
        x.clock(0, 6, 6, 10, 0);
        for (int town = 0; town < 5; town++) {
            x.buyer(town, 9000000, 3);
        }
        for (int n = 0; n < trucks; n++) {
            x.truck(40, 4);
        }
        return x;
    }

    private static void ways() {
        MarketHall x = new MarketHall();
        Check.due("way", x.way(0, 5, 12), 3);
        Check.due("way back", x.way(5, 0, 1), 12);
        Check.due("way", x.way(0, 5, 4), 1);
        Check.due("another way", x.way(0, 1, 4), 3);
        Check.index("no a", () -> x.way(-1, 0, 0));
        Check.index("no a", () -> x.way(6, 0, 1));
        Check.index("no b", () -> x.way(0, -1, 1));
        Check.index("no b", () -> x.way(0, 6, 13));
        Check.index("both are none", () -> x.way(6, 6, 1));
        Check.range("a is b", () -> x.way(2, 2, 1));
        Check.range("hours 0", () -> x.way(0, 1, 0));
        Check.range("hours 13", () -> x.way(0, 1, 13));
    }

    private static void docks() {
        MarketHall x = market(2);
        Check.range("n 0", () -> x.docks(0));
        Check.range("n 5", () -> x.docks(5));
        Check.due("docks", x.docks(4), 2);
        Check.due("docks", x.docks(2), 4);
        x.load(Given.sold(x, 0, 3, 100), 0);
        x.load(Given.sold(x, 1, 3, 100), 1);
        Check.state("more TRUCKS stand there", () -> x.docks(1));
        Check.range("more TRUCKS stand there, n out of range", () -> x.docks(0));
        x.send(1, 3);
        x.pass(1);
        Check.due("one is OUT", x.docks(1), 2);
    }

    private static void trucks() {
        MarketHall x = new MarketHall();
        Check.range("space 9", () -> x.truck(9, 0));
        Check.range("space 100", () -> x.truck(100, 0));
        Check.range("warmth -1", () -> x.truck(10, -1));
        Check.range("warmth 41", () -> x.truck(10, 41));
        for (int n = 0; n < 4; n++) {
            Check.due("truck", x.truck(99, 40), n);
        }
        Check.state("a fifth TRUCK", () -> x.truck(10, 0));
        Check.range("a fifth TRUCK out of range", () -> x.truck(9, 0));
        int[] due = {99, 40, 0, -1, 0, 0, 0, -1, -1, -1, 0, 0};
        for (int what = 0; what < due.length; what++) {
            Check.due("haul(3, " + what + ")", x.haul(3, what), due[what]);
        }
    }

    private static void loads() {
        MarketHall x = market(1);
        int first = Given.sold(x, 0, 12, 100);
        int second = Given.sold(x, 1, 28, 100);
        Check.due("load", x.load(first, 0), 12);
        Check.due("load up to its SPACE", x.load(second, 0), 40);
        Check.due("its STATE", x.parcel(first, 9), MarketHall.LOADED);
        Check.due("its TRUCK", x.parcel(first, 10), 0);
        Check.due("the TIME", x.parcel(first, 14), 2);
        Check.due("RIPE as it was LOADED", x.parcel(first, 15), 300);
        Check.due("HARM as it was LOADED", x.parcel(first, 16), 0);
        Check.due("PARCELS in it", x.haul(0, 5), 2);
    }

    private static void loadIsRefused() {
        MarketHall x = market(4);
        int[] parcels = new int[5];
        for (int n = 0; n < 5; n++) {
            parcels[n] = Given.sold(x, n, 21, 100);
        }
        Check.index("no such PARCEL", () -> x.load(5, 4));
        Check.index("no such PARCEL", () -> x.load(-1, 0));
        Check.index("no such TRUCK", () -> x.load(0, 4));
        Check.index("no such TRUCK", () -> x.load(0, -1));
        x.load(parcels[0], 0);
        Check.state("it is LOADED", () -> x.load(parcels[0], 1));
        Check.state("more than its SPACE", () -> x.load(parcels[1], 0));
        x.load(parcels[1], 1);
        Check.state("all DOCKS are taken", () -> x.load(parcels[2], 2));
        x.docks(3);
        Check.due("another DOCK", x.load(parcels[2], 2), 21);
        x.send(0, 6);
        x.pass(1);
        Check.state("the TRUCK is OUT", () -> x.load(parcels[3], 0));
        Check.due("its DOCK is free", x.load(parcels[3], 3), 21);
        x.dump(4);
        Check.state("it is LOST", () -> x.load(parcels[4], 3));
    }

    private static void palletIsCleared() {
        MarketHall x = market(1);
        x.room(2, 0, 0);
        int pallet = Given.graded(x, 9);
        x.put(pallet, 0);
        x.order(0, 0, 3, 9, 100, Given.EVERY_DAY);
        x.queue(0, pallet, 100, 100);
        x.pass(1);
        Check.due("STORED without CRATES", x.pallet(pallet, 10), MarketHall.STORED);
        Check.due("it takes a PLACE", x.kept(0, 6), 1);
        x.load(0, 0);
        Check.due("CLEARED", x.pallet(pallet, 10), MarketHall.CLEARED);
        Check.due("it stands nowhere", x.pallet(pallet, 12), -1);
        Check.due("it went out", x.kept(0, 7), 1);
        Check.due("isSound(8)", x.isSound(8), true);
        Check.state("it can not be DUMPED", () -> x.dump(pallet));
    }

    private static void palletWithMoreToWaitIsNot() {
        MarketHall x = market(1);
        int pallet = Given.graded(x, 9);
        x.order(0, 0, 3, 4, 100, Given.EVERY_DAY);
        x.order(1, 0, 3, 5, 100, Given.EVERY_DAY);
        x.queue(0, pallet, 100, 100);
        x.pass(1);
        x.load(0, 0);
        Check.due("one is WAITING yet", x.pallet(pallet, 10), MarketHall.STORED);
        x.load(1, 0);
        Check.due("CLEARED", x.pallet(pallet, 10), MarketHall.CLEARED);
        x.pass(24);
        int other = Given.graded(x, 9);
        x.queue(0, other, 100, 100);
        x.pass(1);
        Check.due("CRATES are all sold", x.pallet(other, 4), 0);
        x.truck(40, 4);
        x.load(2, 1);
        x.dump(other);
        Check.due("LOADED ones stay, WAITING ones are LOST", x.parcel(2, 9) * 10 + x.parcel(3, 9), 13);
    }

    private static void sends() {
        MarketHall x = market(1);
        x.pass(5);
        Check.due("send", x.send(0, 6), -1);
        Check.due("send again", x.send(0, 671), 6);
        Check.due("its GO", x.haul(0, 3), 671);
        Check.due("send for none", x.send(0, -1), 671);
        Check.due("its GO", x.haul(0, 3), -1);
        Check.index("no such TRUCK", () -> x.send(1, 5));
        Check.index("no such TRUCK", () -> x.send(-1, 6));
        Check.range("at NOW", () -> x.send(0, 5));
        Check.range("no such TIME", () -> x.send(0, 672));
        Check.range("no such TIME", () -> x.send(0, -2));
        x.pass(20);
        x.load(Given.sold(x, 0, 5, 100), 0);
        x.send(0, 27);
        x.pass(1);
        Check.due("it is OUT", x.haul(0, 2), 1);
        Check.due("it has no GO", x.haul(0, 3), -1);
        Check.state("it is OUT", () -> x.send(0, 40));
        Check.range("it is OUT, at NOW", () -> x.send(0, 27));
    }

    private static void emptyTruckDoesNotGo() {
        MarketHall x = market(1);
        x.send(0, 2);
        x.pass(2);
        Check.due("it is IN", x.haul(0, 2), 0);
        Check.due("it has no GO any more", x.haul(0, 3), -1);
        Check.due("how often it went", x.haul(0, 11), 0);
        Check.due("WENT", x.haul(0, 7), -1);
    }

    /** THE HALL to TOWN 3 in 2 HOURS, on to TOWN 1 in 1, back in 5; the other row takes as long. */
    private static void truckGoesRound() {
        MarketHall x = market(1);
        x.way(5, 3, 2);
        x.way(3, 1, 1);
        x.way(1, 5, 5);
        int near = Given.sold(x, 3, 5, 100);
        int far = Given.sold(x, 1, 6, 100);
        x.load(near, 0);
        x.load(far, 0);
        x.send(0, 4);
        Check.due("its LONG", x.haul(0, 6), 8);
        Check.due("the lowest first TOWN", x.trip(0, 0), 1);
        x.way(1, 5, 6);
        x.way(5, 1, 4);
        Check.due("its LONG", x.haul(0, 6), 7);
        x.pass(2);
        int[] due = {40, 4, 1, -1, 11, 2, 7, 4, 11, 1, 0, 1};
        for (int what = 0; what < due.length; what++) {
            Check.due("haul OUT, " + what, x.haul(0, what), due[what]);
        }
        x.pass(3);
        Check.due("not there yet", x.parcel(far, 9), MarketHall.LOADED);
        x.pass(1);
        Check.due("COME", x.parcel(far, 9), MarketHall.COME);
        Check.due("DONE", x.parcel(far, 17), 8);
        Check.due("without a TRUCK", x.parcel(far, 10), -1);
        Check.due("the other one is in it", x.haul(0, 4), 5);
        Check.due("next", x.haul(0, 9), 3);
        x.pass(1);
        Check.due("COME", x.parcel(near, 9), MarketHall.COME);
        Check.due("next THE HALL", x.haul(0, 9), 5);
        Check.due("the TRIP with which it went", x.trip(0, 0) * 100 + x.trip(0, 1) * 10 + x.trip(0, 2), 129);
        x.pass(1);
        Check.due("OUT yet", x.haul(0, 2), 1);
        x.pass(1);
        Check.due("IN", x.haul(0, 2), 0);
        Check.due("GONE", x.haul(0, 10), 7);
        Check.due("WENT stays", x.haul(0, 7), 4);
        Check.due("no TIME due", x.haul(0, 8) * x.haul(0, 9), 1);
        Check.due("from CASH", x.entry(0, 0), 0);
        Check.due("to HAULS", x.entry(0, 1), 5);
        Check.due("cents", x.entry(0, 2), 7 * 400);
        Check.due("for none", x.entry(0, 3), -1);
        Check.due("it has no TOWNS", x.trip(0, 0), -1);
    }

    private static void waysChangeBehindATruck() {
        MarketHall x = market(1);
        x.load(Given.sold(x, 2, 5, 100), 0);
        x.send(0, 2);
        x.pass(1);
        x.way(2, 5, 1);
        Check.due("its LONG stays", x.haul(0, 6), 6);
        x.pass(3);
        Check.due("COME by the WAY that was", x.parcel(0, 17), 5);
        x.pass(3);
        Check.due("back by the WAY that was", x.haul(0, 2), 0);
        Check.due("at that HOUR", x.entry(0, 4), 8);
    }

    private static void parcelsRipenInTrucks() {
        MarketHall x = Given.open();
        x.truck(40, 20);
        x.truck(40, 3);
        x.buyer(2, 900000, 0);
        x.load(Given.sold(x, 0, 5, 100), 0);
        x.load(Given.sold(x, 1, 5, 100), 1);
        int waiting = Given.sold(x, 0, 5, 100);
        x.pass(2);
        Check.due("in a warm TRUCK that is IN", x.parcel(0, 11), 300 + 4 * 6);
        Check.due("it is harmed in a cold one", x.parcel(1, 12), 3);
        Check.due("RIPE as it was LOADED stays", x.parcel(0, 15), 300);
        x.send(0, 6);
        x.pass(3);
        Check.due("on its way", x.parcel(0, 11), 300 + 7 * 6);
        x.pass(1);
        Check.due("it is COME", x.parcel(0, 9), MarketHall.COME);
        Check.due("ahead of ripening in that HOUR", x.parcel(0, 11), 300 + 7 * 6);
        x.outside(0, 3);
        x.pass(3);
        Check.due("it stays as it is", x.parcel(0, 11), 300 + 7 * 6);
        Check.due("a WAITING one has its PALLET's", x.parcel(waiting, 12), x.pallet(2, 8));
        Check.due("which was harmed", x.pallet(2, 8), 3);
        x.dump(2);
        x.pass(1);
        Check.due("a LOST one keeps what it had", x.parcel(waiting, 12), 3);
    }

    private static void truckBehindTheLastTime() {
        MarketHall x = market(1);
        x.load(Given.sold(x, 2, 5, 100), 0);
        x.way(2, 5, 12);
        x.send(0, 670);
        while (x.sum(0) < 600) {
            x.pass(60);
        }
        x.pass(671 - x.sum(0));
        Check.due("it is OUT", x.haul(0, 2), 1);
        Check.due("due in THE HALL", x.haul(0, 8), 694);
        Check.due("next", x.haul(0, 9), 2);
        Check.due("isSound(5)", x.isSound(5), true);
    }

    private static void haulIsTold() {
        MarketHall x = market(1);
        Check.index("no such TRUCK", () -> x.haul(1, 12));
        Check.index("no such TRUCK", () -> x.haul(-1, 0));
        Check.range("what 12", () -> x.haul(0, 12));
        Check.range("what -1", () -> x.haul(0, -1));
        x.load(Given.sold(x, 4, 5, 100), 0);
        Check.due("LONG as it would go", x.haul(0, 6), 6);
        x.way(4, 5, 7);
        Check.due("LONG as it would go NOW", x.haul(0, 6), 14);
    }

    private static void parcelIsTold() {
        MarketHall x = market(1);
        int parcel = Given.sold(x, 4, 5, 100);
        x.pass(1);
        x.load(parcel, 0);
        x.pay(4, 120);
        int[] due = {0, 4, 0, 5, 0, 100, 1, 0, 300, 1, 0, 300, 0, 1, 2, 300, 0, -1, 500, 500, 3};
        for (int what = 0; what < due.length; what++) {
            Check.due("parcel(0, " + what + ")", x.parcel(parcel, what), due[what]);
        }
        Check.index("no such PARCEL", () -> x.parcel(1, 21));
        Check.index("no such PARCEL", () -> x.parcel(-1, 0));
        Check.range("what 21", () -> x.parcel(parcel, 21));
        Check.range("what -1", () -> x.parcel(parcel, -1));
        int lost = Given.sold(x, 1, 5, 50);
        x.dump(1);
        int[] gone = {1, 1, 1, 5, 0, 50, 3, 0, 300, 3, -1, 300, 0, 1, -1, -1, -1, 3, 250, 0, 3};
        for (int what = 0; what < gone.length; what++) {
            Check.due("parcel LOST, " + what, x.parcel(lost, what), gone[what]);
        }
    }

    private static void trips() {
        MarketHall x = market(1);
        Check.due("without PARCELS", x.trip(0, 0), -1);
        Check.due("LONG without PARCELS", x.haul(0, 6), 0);
        for (int town = 4; town >= 0; town--) {
            x.load(Given.sold(x, town, 1, 100), 0);
        }
        for (int place = 0; place < 5; place++) {
            Check.due("all rows are alike", x.trip(0, place), place);
        }
        x.way(5, 4, 1);
        x.way(4, 2, 1);
        Check.due("the best first", x.trip(0, 0), 0);
        Check.due("LONG", x.haul(0, 6), 14);
        Check.due("the best last", x.trip(0, 4), 4);
        Check.index("no such TRUCK", () -> x.trip(1, 5));
        Check.index("no such TRUCK", () -> x.trip(-1, 0));
        Check.range("place 5", () -> x.trip(0, 5));
        Check.range("place -1", () -> x.trip(0, -1));
    }

    /** A row of TOWNS is a number of 5 figures here; those that are in it twice are passed over. */
    private static void tripsAgainstAllRows() {
        java.util.Random random = new java.util.Random(17);
        for (int turn = 0; turn < 30; turn++) {
            MarketHall x = market(1);
            int[][] way = new int[6][6];
            for (int a = 0; a < 6; a++) {
                for (int b = 0; b < a; b++) {
                    way[a][b] = 1 + random.nextInt(4);
                    way[b][a] = way[a][b];
                    x.way(a, b, way[a][b]);
                }
            }
            for (int town = 0; town < 5; town++) {
                x.load(Given.sold(x, town, 1, 100), 0);
            }
            int fewest = 99;
            int best = 0;
            for (int row = 0; row <= 44444; row++) {
                int seen = 0;
                int hours = 0;
                int at = 5;
                for (int unit = 10000; unit > 0; unit /= 10) {
                    int town = row / unit % 10;
                    seen |= 1 << town;
                    hours += way[at][Math.min(town, 5)];
                    at = Math.min(town, 5);
                }
                hours += way[at][5];
                if (seen == 31 && hours < fewest) {
                    fewest = hours;
                    best = row;
                }
            }
            Check.due("LONG", x.haul(0, 6), fewest);
            int told = 0;
            for (int place = 0; place < 5; place++) {
                told = told * 10 + x.trip(0, place);
            }
            Check.due("TRIP", told, best);
        }
    }

    private static void fewest() {
        MarketHall x = market(1);
        Check.due("without PARCELS", x.fewest(10, 5), 0);
        int[] crates = {6, 5, 5, 4};
        for (int n : crates) {
            Given.sold(x, 0, n, 100);
        }
        Given.sold(x, 1, 20, 100);
        Check.due("6 and 4, 5 and 5", x.fewest(10, 0), 2);
        Check.due("11: 6 and 5, 5 and 4", x.fewest(11, 0), 2);
        Check.due("19", x.fewest(19, 0), 2);
        Check.due("20", x.fewest(20, 0), 1);
        Check.due("another TOWN", x.fewest(20, 1), 1);
        Check.due("a TOWN without PARCELS", x.fewest(10, 2), 0);
        Check.due("all that are WAITING", x.fewest(20, 5), 2);
        x.load(0, 0);
        Check.due("LOADED ones do not count", x.fewest(10, 0), 2);
        x.dump(1);
        Check.due("LOST ones do not count", x.fewest(10, 0), 1);
    }

    private static void fewestIsRefused() {
        MarketHall x = market(1);
        Check.index("no such TOWN", () -> x.fewest(9, -1));
        Check.index("no such TOWN", () -> x.fewest(10, 6));
        Check.range("space 9", () -> x.fewest(9, 0));
        Check.range("space 100", () -> x.fewest(100, 5));
        for (int n = 0; n < 10; n++) {
            Given.sold(x, n % 2, n == 0 ? 11 : 2, 100);
        }
        Check.due("10 PARCELS", x.fewest(29, 5), 1);
        Check.state("one has more CRATES than that", () -> x.fewest(10, 5));
        Check.range("one has more CRATES, space out of range", () -> x.fewest(9, 5));
        Check.due("for the other TOWN", x.fewest(10, 1), 1);
        Given.sold(x, 1, 2, 100);
        Check.state("11 PARCELS", () -> x.fewest(99, 5));
        Check.due("6 of them", x.fewest(12, 1), 1);
    }

    private static void fewestAgainstAllPartings() {
        java.util.Random random = new java.util.Random(29);
        for (int turn = 0; turn < 25; turn++) {
            MarketHall x = market(1);
            int many = 1 + random.nextInt(7);
            int[] crates = new int[many];
            for (int n = 0; n < many; n++) {
                crates[n] = 1 + random.nextInt(10);
                Given.sold(x, random.nextInt(5), crates[n], 100);
            }
            for (int space = 10; space <= 20; space++) {
                Check.due("fewest(" + space + ", 5)", x.fewest(space, 5), part(crates, 0, new int[many], space));
            }
        }
    }

    /** Puts each PARCEL into each LOAD in which it has a place. */
    private static int part(int[] crates, int next, int[] loads, int space) {
        if (next == crates.length) {
            int many = 0;
            for (int load : loads) {
                many += load > 0 ? 1 : 0;
            }
            return many;
        }
        int fewest = crates.length;
        for (int n = 0; n <= next; n++) {
            if (loads[n] + crates[next] <= space) {
                loads[n] += crates[next];
                fewest = Math.min(fewest, part(crates, next + 1, loads, space));
                loads[n] -= crates[next];
            }
        }
        return fewest;
    }
}
