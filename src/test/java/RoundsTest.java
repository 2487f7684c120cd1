/** Promises 23 to 25: inspector, round, looked, found, worst; and ROOMS that are SHUT. */
public final class RoundsTest {

    public static void main(String[] args) {
        inspectors();
        rounds();
        roundIsRefused();
        looksByWeekday();
        lookGoesRound();
        rottenIsSeized();
        seizedPalletLosesParcels();
        harmedIsFound();
        harmOfJustADay();
        strictFindsStages();
        floorIsNeverShut();
        roomIsShut();
        shutByHowManyFindings();
        lookedTellsTheNextLook();
        found();
        findingsAreKept();
        worst();
        worstInItsHours();
        worstOfNoDay();
        worstAgainstAllSearches();
        Check.end();
    }

    /** Three ROOMS of 12 PLACES that keep to the 4 OUTSIDE, and an INSPECTOR. */
    private static MarketHall market(int hour, int strict) {
        MarketHall x = Given.open();
        for (int n = 0; n < 3; n++) {
            x.room(12, 0, 0);
        }
        x.inspector(hour, strict);
        return x;
    }

    private static int rotten(MarketHall x, int room) {
        int pallet = x.deliver(0, 0, 5, 999, 0);
        if (room >= 0) {
            x.put(pallet, room);
        }
        return pallet;
    }

    private static void inspectors() {
        MarketHall x = new MarketHall();
        Check.range("hour -1", () -> x.inspector(-1, 0));
        Check.range("hour 19", () -> x.inspector(19, 0));
        Check.range("strict -1", () -> x.inspector(0, -1));
        Check.range("strict 4", () -> x.inspector(0, 4));
        Check.due("inspector", x.inspector(18, 3), 0);
        Check.due("inspector", x.inspector(0, 0), 1);
        Check.state("a third INSPECTOR", () -> x.inspector(0, 0));
        Check.range("a third INSPECTOR out of range", () -> x.inspector(0, 4));
        int[] due = {18, 3, 0, 0, 0, 0, 0, -1, -1, -1};
        for (int what = 0; what < due.length; what++) {
            Check.due("looked(0, " + what + ")", x.looked(0, what), due[what]);
        }
    }

    private static void rounds() {
        MarketHall x = market(2, 0);
        Check.due("round", x.round(0, 127, 123777), 6);
        Check.due("STOPS", x.looked(0, 3), 123777);
        Check.due("WEEKDAYS", x.looked(0, 2), 127);
        Check.due("round", x.round(0, 0, 7), 1);
        Check.due("round", x.round(0, 5, 0), 0);
        Check.due("STOPS", x.looked(0, 3), 0);
        Check.due("alike STOPS", x.round(0, 1, 11), 2);
    }

    private static void roundIsRefused() {
        MarketHall x = market(2, 0);
        Check.index("no such INSPECTOR", () -> x.round(1, 128, 0));
        Check.index("no such INSPECTOR", () -> x.round(-1, 0, 0));
        Check.range("weekdays -1", () -> x.round(0, -1, 0));
        Check.range("weekdays 128", () -> x.round(0, 128, 0));
        Check.range("stops -1", () -> x.round(0, 0, -1));
        Check.range("7 figures", () -> x.round(0, 0, 1111111));
        Check.range("7 figures", () -> x.round(0, 0, 1000000));
        Check.range("a figure 0", () -> x.round(0, 0, 101));
        Check.range("a figure 0", () -> x.round(0, 0, 10));
        Check.range("a figure 8", () -> x.round(0, 0, 18));
        Check.range("a figure 9", () -> x.round(0, 0, 91));
        Check.range("no such ROOM", () -> x.round(0, 0, 143));
        x.room(1, 0, 0);
        Check.due("there is that ROOM", x.round(0, 0, 143), 3);
        MarketHall y = new MarketHall();
        y.inspector(0, 0);
        Check.range("there is no ROOM", () -> y.round(0, 0, 1));
        Check.due("but THE FLOOR", y.round(0, 0, 777777), 6);
    }

    private static void looksByWeekday() {
        MarketHall x = market(5, 0);
        x.round(0, 0b0000101, 7);
        x.pass(4);
        Check.due("not yet", x.looked(0, 4), 0);
        x.pass(1);
        Check.due("LOOKS", x.looked(0, 4), 1);
        Check.due("the TIME", x.looked(0, 7), 5);
        x.pass(24);
        Check.due("not on DAY 1", x.looked(0, 4), 1);
        x.pass(24);
        Check.due("on DAY 2", x.looked(0, 7), 53);
        x.pass(72);
        Check.due("not till DAY 5", x.looked(0, 4), 2);
        x.pass(48);
        Check.due("on DAY 7", x.looked(0, 7), 7 * 24 + 5);
    }

    /** STOPS 3, 7, 1 in the HOURS 2, 3, 4; each PALLET is found there and then. */
    private static void lookGoesRound() {
        MarketHall x = market(2, 0);
        x.round(0, 127, 371);
        rotten(x, 0);
        rotten(x, 1);
        rotten(x, 2);
        rotten(x, -1);
        x.pass(6);
        int[][] due = {{0, 4, 0, 0, 1, -1}, {0, 3, 3, 0, 7, -1}, {0, 2, 2, 0, 3, -1}};
        for (int back = 0; back < 3; back++) {
            for (int what = 0; what < 6; what++) {
                Check.due("found(" + back + ", " + what + ")", x.found(back, what), due[back][what]);
            }
        }
        Check.due("no STOP there", x.pallet(1, 10), MarketHall.STORED);
        Check.due("LOOKS", x.looked(0, 4), 3);
    }

    private static void rottenIsSeized() {
        MarketHall x = market(2, 0);
        x.round(0, 127, 17);
        int inRoom = rotten(x, 0);
        int onFloor = rotten(x, -1);
        int fine = x.deliver(0, 0, 5, 480, 1);
        x.grade(onFloor, 1, 0, 0);
        x.queue(0, fine, 10, 10);
        x.withdraw(fine);
        x.pass(2);
        int[] due = {0, 0, 0, 5, 0, 0, 5, 999, 0, -1, 3, 3, -1, 0, 0, -1};
        for (int what = 0; what < due.length; what++) {
            Check.due("pallet SEIZED, " + what, x.pallet(inRoom, what), due[what]);
        }
        Check.due("it went out", x.kept(0, 7), 1);
        Check.due("from CASH", x.entry(0, 0), 0);
        Check.due("to FINES", x.entry(0, 1), 7);
        Check.due("cents", x.entry(0, 2), 2500);
        Check.due("for", x.entry(0, 3), inRoom);
        x.tariff(3, 9);
        x.pass(1);
        Check.due("the GRADE that there was", x.found(0, 5), 3);
        Check.due("by another TARIFF", x.entry(0, 2), 9);
        Check.due("SEIZED", x.looked(0, 6), 2);
        Check.due("FINDINGS", x.looked(0, 5), 2);
        Check.due("SOFT is none for one who is not STRICT", x.pallet(fine, 10), MarketHall.STORED);
    }

    private static void seizedPalletLosesParcels() {
        MarketHall x = market(2, 0);
        x.sort(9, 0, 0, 100, 10);
        x.round(0, 127, 7);
        int pallet = x.deliver(0, 1, 9, 125, 0);
        x.grade(pallet, 1, 0, 0);
        x.outside(0, 30);
        x.order(0, 1, 3, 4, 100, Given.EVERY_DAY);
        x.queue(0, pallet, 100, 100);
        x.deliver(0, 1, 9, 500, 0);
        x.queue(0, 1, 100, 100);
        x.pass(1);
        Check.due("ROTTEN now", x.pallet(pallet, 11), 3);
        Check.due("its PARCEL was SOLD", x.parcel(0, 9), MarketHall.WAITING);
        x.pass(1);
        Check.due("its PARCEL is LOST", x.parcel(0, 9), MarketHall.LOST);
        Check.due("SPOILT", x.pallet(pallet, 6), 5);
        Check.due("the FINE of the second PALLET", x.entry(0, 3), 1);
        Check.due("the FINE of the first one", x.entry(1, 1), 7);
        Check.due("ahead of it what was LOST", x.entry(2, 1), 8);
    }

    private static void harmedIsFound() {
        MarketHall x = market(5, 0);
        x.round(0, 127, 7);
        int bad = x.deliver(0, 0, 5, 300, 5);
        x.grade(bad, 5, 0, 0);
        int best = Given.graded(x, 5);
        x.deliver(0, 0, 5, 300, 0);
        int second = x.deliver(0, 0, 5, 300, 5);
        x.grade(second, 1, 0, 0);
        Check.due("GRADES 3, 0 and 2", x.pallet(bad, 9) * 100 + x.pallet(best, 9) * 10 + x.pallet(second, 9), 302);
        x.outside(0, 3);
        x.outside(1, 3);
        x.pass(23);
        Check.due("HARM 23 is none", x.looked(0, 5), 0);
        x.pass(6);
        Check.due("HARM", x.pallet(best, 8), 29);
        Check.due("two FINDINGS", x.looked(0, 5), 2);
        Check.due("the kind of the first one", x.found(1, 3), 1);
        Check.due("its PALLET", x.found(1, 2), best);
        Check.due("the GRADE that there was", x.found(1, 5), 0);
        Check.due("its GRADE", x.pallet(best, 9), 3);
        Check.due("the PALLET of the second one", x.found(0, 2), second);
        Check.due("the GRADE that there was", x.found(0, 5), 2);
        Check.due("none without a GRADE", x.pallet(2, 9), -1);
        x.pass(24);
        Check.due("they are not found again", x.looked(0, 5), 2);
        x.grade(best, 1, 0, 0);
        x.pass(24);
        Check.due("a GRADING makes it new", x.looked(0, 5), 3);
    }

    private static void harmOfJustADay() {
        MarketHall x = market(0, 0);
        x.round(0, 127, 77);
        x.inspector(1, 0);
        x.round(1, 127, 7);
        int first = Given.graded(x, 5);
        x.outside(0, 3);
        x.pass(23);
        int second = Given.graded(x, 5);
        x.outside(1, 3);
        x.pass(1);
        Check.due("HARM 24 is found", x.found(0, 2), first);
        Check.due("HARM 1 is none", x.looked(0, 5), 1);
        x.pass(1);
        x.grade(first, 1, 0, 0);
        x.grade(second, 1, 0, 0);
        x.pass(23);
        Check.due("HARM of the second one", x.pallet(second, 8), 24);
        Check.due("both are found", x.looked(0, 5), 3);
        x.grade(first, 1, 0, 0);
        x.pass(1);
        Check.due("by the first INSPECTOR, as he looks first", x.looked(0, 5), 4);
        Check.due("who is told", x.found(0, 0), 0);
        x.round(0, 127, 0);
        x.grade(first, 1, 0, 0);
        x.pass(24);
        Check.due("by the second INSPECTOR", x.looked(1, 5), 1);
        Check.due("who is told", x.found(0, 0), 1);
    }

    private static void strictFindsStages() {
        MarketHall x = market(2, 1);
        x.inspector(3, 0);
        x.sort(9, 0, 0, 300, 60);
        x.round(0, 127, 7);
        int soft = x.deliver(0, 1, 5, 355, 0);
        x.grade(soft, 1, 0, 0);
        x.deliver(0, 1, 5, 400, 0);
        x.grade(x.deliver(0, 1, 5, 400, 0), 1, 0, 0);
        x.grade(x.deliver(0, 1, 5, 300, 0), 1, 0, 0);
        x.outside(0, 10);
        x.pass(2);
        Check.due("its kind", x.found(0, 3), 2);
        Check.due("its PALLET", x.found(0, 2), soft);
        Check.due("the GRADE that there was", x.found(0, 5), 0);
        Check.due("its GRADE", x.pallet(soft, 9), 2);
        Check.due("one FINDING", x.looked(0, 5), 1);
        x.outside(1, 0);
        x.pass(24);
        Check.due("it is SEIZED when it is ROTTEN", x.pallet(soft, 10), MarketHall.SEIZED);
    }

    private static void floorIsNeverShut() {
        MarketHall x = market(2, 3);
        x.round(0, 127, 7);
        for (int n = 0; n < 5; n++) {
            rotten(x, -1);
        }
        int good = x.deliver(0, 0, 5, 300, 0);
        x.pass(2);
        Check.due("FINDINGS", x.looked(0, 5), 5);
        Check.due("put", x.put(good, 0), 11);
        Check.due("put", x.put(good, -1), 11);
    }

    private static void roomIsShut() {
        MarketHall x = market(2, 3);
        x.truck(40, 4);
        x.round(0, 1, 1);
        int inside = Given.graded(x, 9);
        x.put(inside, 0);
        x.order(0, 0, 3, 4, 100, Given.EVERY_DAY);
        x.queue(0, inside, 100, 100);
        rotten(x, 0);
        int onFloor = x.deliver(0, 0, 5, 300, 0);
        x.pass(2);
        Check.due("SHUT till", x.kept(0, 10), 26);
        Check.due("its PARCEL", x.parcel(0, 9), MarketHall.WAITING);
        Check.state("out of it", () -> x.put(inside, -1));
        Check.state("from it into another one", () -> x.put(inside, 1));
        Check.state("into it", () -> x.put(onFloor, 0));
        Check.state("loaded from it", () -> x.load(0, 0));
        Check.state("queued in it", () -> x.queue(0, inside, 10, 10));
        Check.due("graded in it", x.grade(inside, 1, 0, 0), 0);
        Check.due("none is put into it", x.best(2, 1), 6);
        x.pass(23);
        Check.due("SHUT at 25", x.kept(0, 10), 26);
        x.pass(1);
        Check.due("not SHUT at 26", x.kept(0, 10), -1);
        Check.due("loaded from it", x.load(0, 0), 4);
        x.clock(20, 1, 1, 10, 0);
        x.pass(19);
        Check.due("queued in it", x.queue(1, inside, 500, 500), 0);
        rotten(x, 0);
        x.round(0, 127, 1);
        x.pass(5);
        Check.due("SHUT again", x.kept(0, 10), 74);
        Check.due("withdrawn in it", x.withdraw(inside), 0);
        Check.due("dumped in it", x.dump(inside), 5);
    }

    /** 4 less STRICT are needed. */
    private static void shutByHowManyFindings() {
        for (int strict = 0; strict < 4; strict++) {
            for (int many = 1; many <= 4; many++) {
                MarketHall x = market(2, strict);
                x.round(0, 127, 12);
                for (int n = 0; n < many; n++) {
                    rotten(x, 1);
                }
                x.pass(3);
                Check.due("STRICT " + strict + ", FINDINGS " + many, x.kept(1, 10), many >= 4 - strict ? 27 : -1);
                Check.due("no FINDINGS there", x.kept(0, 10), -1);
            }
        }
    }

    private static void lookedTellsTheNextLook() {
        MarketHall x = market(5, 2);
        x.round(0, 0b0001010, 231);
        Check.due("on DAY 1", x.looked(0, 8), 29);
        Check.due("the first STOP", x.looked(0, 9), 2);
        x.pass(29);
        Check.due("behind NOW", x.looked(0, 8), 30);
        Check.due("the second STOP", x.looked(0, 9), 3);
        x.pass(2);
        Check.due("on DAY 3", x.looked(0, 8), 77);
        Check.due("LOOKS", x.looked(0, 4), 3);
        for (int n = 0; n < 8; n++) {
            x.pass(72);
        }
        x.pass(58);
        Check.due("on DAY 27 none", x.looked(0, 8), -1);
        Check.due("no STOP", x.looked(0, 9), -1);
        x.round(0, 0b1000000, 1);
        Check.due("NOW", x.sum(0), 665);
        Check.due("WEEKDAY 6, but too late", x.looked(0, 8), -1);
        x.inspector(18, 0);
        x.round(1, 127, 777777);
        x.pass(5);
        Check.due("at the last TIME", x.looked(1, 8), 671);
        x.pass(1);
        Check.due("a LOOK at the last TIME", x.looked(1, 7), 671);
        Check.due("none behind it", x.looked(1, 8), -1);
        Check.index("no such INSPECTOR", () -> x.looked(2, 10));
        Check.index("no such INSPECTOR", () -> x.looked(-1, 0));
        Check.range("what 10", () -> x.looked(0, 10));
        Check.range("what -1", () -> x.looked(0, -1));
    }

    private static void found() {
        MarketHall x = market(2, 0);
        Check.index("none yet", () -> x.found(0, 6));
        x.round(0, 127, 7);
        rotten(x, -1);
        x.pass(2);
        Check.due("its INSPECTOR", x.found(0, 0), 0);
        Check.index("only one", () -> x.found(1, 0));
        Check.index("back -1", () -> x.found(-1, 0));
        Check.range("what 6", () -> x.found(0, 6));
        Check.range("what -1", () -> x.found(0, -1));
    }

    private static void findingsAreKept() {
        MarketHall x = market(2, 0);
        x.round(0, 127, 777777);
        for (int turn = 0; turn < 3; turn++) {
            for (int n = 0; n < 10; n++) {
                rotten(x, -1);
            }
            x.pass(turn == 0 ? 2 : 1);
        }
        Check.due("FINDINGS", x.looked(0, 5), 30);
        for (int back = 0; back < 24; back++) {
            Check.due("the PALLET", x.found(back, 2), 29 - back);
            Check.due("the TIME", x.found(back, 1), 4 - back / 10);
        }
        Check.index("24 are kept", () -> x.found(24, 0));
        Check.due("isSound(6)", x.isSound(6), true);
    }

    private static void worst() {
        MarketHall x = market(2, 0);
        Check.due("nothing to find", x.worst(0, 0), 0);
        Check.due("the least number", x.worst(0, 1), 111);
        rotten(x, 2);
        rotten(x, -1);
        rotten(x, -1);
        Check.due("all are found", x.worst(0, 0), 3);
        Check.due("the least number", x.worst(0, 1), 137);
        Check.due("nothing is done", x.sum(8), 0);
        x.deliver(0, 0, 5, 470, 0);
        x.put(3, 0);
        x.set(0, 40);
        x.outside(0, 40);
        Check.due("it ripens on the way", x.worst(0, 0), 3);
        MarketHall y = new MarketHall();
        y.inspector(2, 0);
        Check.due("THE FLOOR alone", y.worst(0, 1), 777);
        Check.index("no such INSPECTOR", () -> y.worst(1, 2));
        Check.index("no such INSPECTOR", () -> y.worst(-1, 0));
        Check.range("what 2", () -> y.worst(0, 2));
        Check.range("what -1", () -> y.worst(0, -1));
    }

    /** At 18 it ripens by 5 in an HOUR, and is ROTTEN above 480; the third LOOK is at 7. */
    private static void worstInItsHours() {
        for (int ripe = 444; ripe <= 458; ripe++) {
            MarketHall x = Given.sortAndGrower();
            x.inspector(5, 0);
            x.deliver(0, 0, 5, ripe, 0);
            x.room(3, 9, 9);
            x.set(0, 40);
            Check.due("worst of " + ripe, x.worst(0, 0), ripe + 7 * 5 > 480 ? 1 : 0);
            Check.due("its STOPS", x.worst(0, 1), ripe + 7 * 5 > 480 ? 117 : 111);
            x.pass(5);
            Check.due("about the next DAY", x.worst(0, 0), 1);
        }
    }

    private static void worstOfNoDay() {
        MarketHall x = market(5, 0);
        rotten(x, -1);
        for (int n = 0; n < 9; n++) {
            x.pass(72);
        }
        x.pass(4);
        Check.due("TODAY, DAY 27", x.worst(0, 0), 1);
        x.pass(1);
        Check.due("DAY 28 is none", x.worst(0, 0), -1);
        Check.due("no STOPS", x.worst(0, 1), -1);
        Check.range("no DAY, what out of range", () -> x.worst(0, 2));
    }

    /** Each SEARCH is made as a ROUND on an image, without CLOCKS, TRUCKS and other INSPECTORS. */
    private static void worstAgainstAllSearches() {
        for (int turn = 0; turn < 10; turn++) {
            MarketHall x = season(turn);
            int[] best = {-1, -1};
            x.keep(0);
            int wait = (x.looked(0, 0) + 24 - x.sum(0) % 24 - 1) % 24 + 1;
            for (int stops = 111; stops <= 777; stops++) {
                if (canBe(x, stops)) {
                    x.round(0, 127, stops);
                    int before = x.looked(0, 5);
                    x.pass(wait + 2);
                    if (x.looked(0, 5) - before > best[0]) {
                        best[0] = x.looked(0, 5) - before;
                        best[1] = stops;
                    }
                    x.again(0);
                }
            }
            Check.due("worst(0, 0) of season " + turn, x.worst(0, 0), best[0]);
            Check.due("worst(0, 1) of season " + turn, x.worst(0, 1), best[1]);
        }
    }

    private static MarketHall season(int turn) {
        MarketHall x = new MarketHall();
        int seed = 100 * turn;
        x.season(seed, 12);
        while (x.sum(19) == 0) {
            x = new MarketHall();
            seed++;
            x.season(seed, 12);
        }
        for (int n = 0; n < 12; n++) {
            if (x.pallet(n, 10) == MarketHall.QUEUED) {
                x.withdraw(n);
            }
            if (x.pallet(n, 9) == -1) {
                x.grade(n, 1, 0, n);
            }
        }
        for (int n = 0; n < x.sum(19); n++) {
            x.round(n, 0, 0);
        }
        x.pass(1 + 5 * turn);
        return x;
    }

    private static boolean canBe(MarketHall x, int stops) {
        boolean can = true;
        for (int rest = stops; rest > 0; rest /= 10) {
            can &= rest % 10 == 7 || rest % 10 >= 1 && rest % 10 <= x.sum(3);
        }
        return can;
    }
}
