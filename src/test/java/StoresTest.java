/** Promises 5 to 10: room, set, gas, outside, put, dump, kept, pallet, ripe, best. */
public final class StoresTest {

    public static void main(String[] args) {
        rooms();
        setAndGas();
        outside();
        warmth();
        warmthByDoors();
        powerIsEntered();
        ripening();
        harm();
        puts();
        putIsRefused();
        dumps();
        kept();
        palletIsTold();
        ripe();
        ripeIsRefused();
        best();
        bestByDoors();
        bestOfLikeOnes();
        bestAgainstAllWays();
        Check.end();
    }

    private static void rooms() {
        MarketHall x = new MarketHall();
        Check.range("places 0", () -> x.room(0, 0, 0));
        Check.range("places 13", () -> x.room(13, 0, 0));
        Check.range("power -1", () -> x.room(1, -1, 0));
        Check.range("power 10", () -> x.room(1, 10, 0));
        Check.range("leak -1", () -> x.room(1, 0, -1));
        Check.range("leak 10", () -> x.room(1, 0, 10));
        x.outside(0, 31);
        for (int n = 0; n < 6; n++) {
            Check.due("room", x.room(12, 9, 9), n);
        }
        Check.state("a seventh ROOM", () -> x.room(1, 0, 0));
        Check.range("a seventh ROOM out of its range", () -> x.room(0, 0, 0));
        int[] due = {12, 9, 9, 18, 0, 31, 0, 0, 0, 0, -1};
        for (int what = 0; what < due.length; what++) {
            Check.due("kept(5, " + what + ")", x.kept(5, what), due[what]);
        }
    }

    private static void setAndGas() {
        MarketHall x = new MarketHall();
        x.room(1, 0, 0);
        Check.due("set", x.set(0, 40), 18);
        Check.due("set", x.set(0, 0), 40);
        Check.due("its SET", x.kept(0, 3), 0);
        Check.index("no such ROOM", () -> x.set(1, 41));
        Check.index("no such ROOM", () -> x.set(-1, 0));
        Check.range("warmth -1", () -> x.set(0, -1));
        Check.range("warmth 41", () -> x.set(0, 41));
        Check.due("gas on", x.gas(0, true), false);
        Check.due("gas on again", x.gas(0, true), true);
        Check.due("its GAS", x.kept(0, 4), 1);
        Check.due("gas off", x.gas(0, false), true);
        Check.due("gas off again", x.gas(0, false), false);
        Check.index("no such ROOM", () -> x.gas(1, true));
        Check.index("no such ROOM", () -> x.gas(-1, true));
    }

    private static void outside() {
        MarketHall x = new MarketHall();
        Check.due("outside", x.outside(0, 0), 18);
        Check.due("outside", x.outside(0, 40), 0);
        Check.due("outside", x.outside(27, 7), 18);
        Check.range("day -1", () -> x.outside(-1, 0));
        Check.range("day 28", () -> x.outside(28, 0));
        Check.range("warmth -1", () -> x.outside(0, -1));
        Check.range("warmth 41", () -> x.outside(0, 41));
        x.pass(24);
        Check.state("a DAY that is over", () -> x.outside(0, 3));
        Check.range("a DAY that is over, warmth out of range", () -> x.outside(0, 41));
        Check.due("TODAY", x.outside(1, 3), 18);
        x.room(1, 0, 0);
        Check.due("OUTSIDE at once", x.kept(0, 5), 3);
    }

    /** From 18 by 4 towards 6 in each HOUR, behind 2 back towards OUTSIDE. */
    private static void warmth() {
        MarketHall x = new MarketHall();
        x.room(3, 4, 2);
        x.set(0, 6);
        int[] due = {14, 12, 10, 8, 6, 6, 6};
        for (int n = 0; n < due.length; n++) {
            x.pass(1);
            Check.due("WARMTH in HOUR " + n, x.kept(0, 5), due[n]);
            Check.due("POWER WORKED", x.kept(0, 8), n + 1);
        }
        x.set(0, 18);
        x.pass(3);
        Check.due("WARMTH from 6: 12, 18, 18", x.kept(0, 5), 18);
        Check.due("the third HOUR needed no POWER", x.kept(0, 8), 9);
        x.outside(0, 20);
        x.set(0, 40);
        x.pass(2);
        Check.due("not beyond OUTSIDE, then by POWER: 24, 26", x.kept(0, 5), 26);
        x.pass(1);
        Check.due("back to OUTSIDE, then by POWER: 24 and 4", x.kept(0, 5), 28);
    }

    private static void warmthByDoors() {
        MarketHall x = Given.sortAndGrower();
        x.room(3, 0, 0);
        x.outside(0, 25);
        x.deliver(0, 0, 1, 0, 0);
        x.deliver(0, 0, 1, 0, 0);
        x.pass(1);
        Check.due("no LEAK, no DOORS", x.kept(0, 5), 18);
        x.put(0, 0);
        x.put(1, 0);
        x.put(0, -1);
        Check.due("DOORS", x.kept(0, 7), 3);
        x.pass(1);
        Check.due("WARMTH by DOORS", x.kept(0, 5), 21);
        Check.due("DOORS are 0 then", x.kept(0, 7), 0);
        x.dump(1);
        Check.due("one that is DUMPED goes out", x.kept(0, 7), 1);
        x.pass(2);
        Check.due("WARMTH by DOORS", x.kept(0, 5), 22);
        Check.due("no POWER WORKED", x.kept(0, 8), 0);
    }

    private static void powerIsEntered() {
        MarketHall x = new MarketHall();
        x.room(1, 9, 9);
        x.room(1, 9, 9);
        x.set(0, 0);
        x.pass(23);
        Check.due("HOURS since the DAY began", x.kept(0, 9), 23);
        Check.due("nothing is entered yet", x.account(4) + x.account(9), 0);
        x.pass(1);
        Check.due("HOURS in all", x.kept(0, 8), 24);
        Check.due("HOURS since a DAY was closed", x.kept(0, 9), 0);
        Check.due("CASH", x.account(0), -24 * 120);
        Check.due("RESULT", x.account(9), 24 * 120);
        x.set(1, 0);
        x.tariff(1, 10);
        x.pass(24);
        Check.due("both ROOMS, by the TARIFF of now", x.account(0), -24 * 120 - 2 * 24 * 10);
        Check.due("from POWER", x.entry(0, 0), 4);
        Check.due("to RESULT", x.entry(0, 1), 9);
        Check.due("from CASH", x.entry(1, 0), 0);
        Check.due("to POWER", x.entry(1, 1), 4);
        Check.due("for none", x.entry(1, 3), -1);
    }

    /** PACE 3, BASE 4: at 18 on THE FLOOR 42 / 8 in an HOUR. */
    private static void ripening() {
        MarketHall x = Given.sortAndGrower();
        x.room(3, 0, 0);
        x.deliver(0, 0, 1, 100, 0);
        x.deliver(0, 0, 1, 100, 0);
        x.deliver(0, 0, 1, 1990, 0);
        x.put(1, 0);
        x.pass(1);
        Check.due("on THE FLOOR", x.pallet(0, 7), 105);
        Check.due("in a ROOM", x.pallet(1, 7), 105);
        x.gas(0, true);
        x.pass(1);
        Check.due("on THE FLOOR", x.pallet(0, 7), 110);
        Check.due("with GAS", x.pallet(1, 7), 115);
        x.outside(0, 3);
        x.pass(1);
        Check.due("below BASE", x.pallet(0, 7), 110);
        x.outside(0, 40);
        x.pass(1);
        Check.due("36 above BASE", x.pallet(0, 7), 123);
        Check.due("no more than 2000", x.pallet(2, 7), 2000);
    }

    private static void harm() {
        MarketHall x = Given.sortAndGrower();
        x.deliver(0, 0, 1, 0, 0);
        x.outside(0, 4);
        x.pass(2);
        Check.due("not below CHILL", x.pallet(0, 8), 0);
        x.outside(0, 3);
        x.pass(5);
        Check.due("below CHILL", x.pallet(0, 8), 5);
        Check.due("nothing ripens", x.pallet(0, 7), 0);
    }

    private static void puts() {
        MarketHall x = Given.open();
        x.room(2, 0, 0);
        x.room(5, 0, 0);
        for (int n = 0; n < 3; n++) {
            x.deliver(0, 0, 5, 0, 0);
        }
        Check.due("put", x.put(0, 0), 1);
        Check.due("put", x.put(1, 0), 0);
        Check.due("where it stands", x.pallet(1, 12), 0);
        Check.due("put on THE FLOOR", x.put(0, -1), 10);
        Check.due("where it stands", x.pallet(0, 12), 6);
        Check.due("put elsewhere", x.put(1, 1), 4);
        Check.due("PALLETS there", x.kept(1, 6), 1);
        Check.due("DOORS there", x.kept(1, 7), 1);
        Check.due("DOORS where it stood", x.kept(0, 7), 4);
        x.queue(0, 1, 10, 10);
        Check.due("put a QUEUED one", x.put(1, 0), 1);
        Check.due("it stays QUEUED", x.pallet(1, 10), MarketHall.QUEUED);
    }

    private static void putIsRefused() {
        MarketHall x = Given.sortAndGrower();
        x.room(1, 0, 0);
        for (int n = 0; n < 12; n++) {
            x.deliver(0, 0, 5, 0, 0);
        }
        Check.index("no such PALLET", () -> x.put(12, 0));
        Check.index("no such PALLET", () -> x.put(-1, 0));
        Check.index("no such ROOM", () -> x.put(0, 1));
        Check.index("no such ROOM", () -> x.put(0, -2));
        Check.index("no such ROOM", () -> x.put(0, 6));
        Check.state("it stands there", () -> x.put(0, -1));
        x.put(0, 0);
        Check.state("it stands there", () -> x.put(0, 0));
        Check.state("no PLACE is left", () -> x.put(1, 0));
        x.deliver(0, 0, 1, 0, 0);
        Check.state("THE FLOOR is full", () -> x.put(0, -1));
        x.dump(5);
        Check.state("it is not THERE", () -> x.put(5, 0));
        Check.index("it is not THERE, no such ROOM", () -> x.put(5, 1));
        Check.due("THE FLOOR has a PLACE", x.put(0, -1), 0);
        Check.due("what was refused changes nothing", x.kept(0, 7), 2);
    }

    private static void dumps() {
        MarketHall x = Given.open();
        Given.sold(x, 0, 4, 100);
        int pallet = x.deliver(0, 0, 9, 333, 2);
        x.queue(0, pallet, 10, 10);
        Check.due("dump", x.dump(pallet), 9);
        int[] due = {0, 0, 1, 9, 0, 0, 9, 333, 0, -1, 4, 1, -1, 0, 0, -1};
        for (int what = 0; what < due.length; what++) {
            Check.due("pallet DUMPED, " + what, x.pallet(pallet, what), due[what]);
        }
        Check.due("its LOT is gone", x.hand(0, 5), 0);
        Check.state("dump it again", () -> x.dump(pallet));
        Check.index("no such PALLET", () -> x.dump(2));
        Check.index("no such PALLET", () -> x.dump(-1));
        Check.due("dump one that is all sold", x.dump(0), 0);
        Check.due("its PARCEL is LOST", x.parcel(0, 9), MarketHall.LOST);
        Check.due("at NOW", x.parcel(0, 17), 1);
    }

    private static void kept() {
        MarketHall x = new MarketHall();
        x.room(7, 3, 2);
        int[] due = {7, 3, 2, 18, 0, 18, 0, 0, 0, 0, -1};
        for (int what = 0; what < due.length; what++) {
            Check.due("kept(0, " + what + ")", x.kept(0, what), due[what]);
        }
        Check.index("no such ROOM", () -> x.kept(1, 11));
        Check.index("no such ROOM", () -> x.kept(-1, 0));
        Check.range("what 11", () -> x.kept(0, 11));
        Check.range("what -1", () -> x.kept(0, -1));
    }

    private static void palletIsTold() {
        MarketHall x = Given.open();
        x.room(3, 0, 0);
        int pallet = x.deliver(0, 0, 10, 250, 5);
        x.grade(pallet, 10, 9, 3);
        x.put(pallet, 0);
        x.order(0, 0, 3, 4, 100, Given.EVERY_DAY);
        x.queue(0, pallet, 100, 100);
        Check.due("QUEUED", x.pallet(pallet, 10), 1);
        x.outside(0, 4);
        x.set(0, 4);
        x.pass(1);
        int[] due = {0, 0, 0, 10, 6, 3, 0, 250, 0, 1, 0, 1, 0, 1, 1, 5};
        for (int what = 0; what < due.length; what++) {
            Check.due("pallet(0, " + what + ")", x.pallet(pallet, what), due[what]);
        }
        Check.index("no such PALLET", () -> x.pallet(1, 16));
        Check.index("no such PALLET", () -> x.pallet(-1, 0));
        Check.range("what 16", () -> x.pallet(pallet, 16));
        Check.range("what -1", () -> x.pallet(pallet, -1));
    }

    private static void ripe() {
        MarketHall x = Given.sortAndGrower();
        x.room(1, 9, 0);
        x.room(3, 0, 3);
        x.set(0, 5);
        x.deliver(0, 0, 5, 100, 0);
        x.outside(1, 40);
        Check.due("as it is", x.ripe(0, 0, 0), 100);
        Check.due("on THE FLOOR", x.ripe(0, -1, 2), 110);
        Check.due("on THE FLOOR into a warmer DAY", x.ripe(0, -1, 24), 100 + 23 * 5 + 13);
        Check.due("in a cold ROOM: at 9, at 5", x.ripe(0, 0, 2), 101);
        x.outside(0, 40);
        Check.due("its DOORS let it leak in the first HOUR: at 22, 25", x.ripe(0, 1, 2), 100 + 6 + 7);
        x.put(0, 1);
        x.pass(1);
        Check.due("where it stands: from 22 on, at 25, 28", x.ripe(0, 1, 3), 106 + 7 + 9);
        x.deliver(0, 0, 5, 100, 0);
        x.put(1, 0);
        Check.due("no PLACE is needed", x.ripe(0, 0, 1), 106);
        x.dump(0);
        Check.due("it is not THERE", x.ripe(0, 0, 5), -1);
    }

    private static void ripeIsRefused() {
        MarketHall x = Given.sortAndGrower();
        x.deliver(0, 0, 5, 100, 0);
        x.pass(3);
        Check.index("no such PALLET", () -> x.ripe(1, -1, 672));
        Check.index("no such PALLET", () -> x.ripe(-1, -1, 5));
        Check.index("no such ROOM", () -> x.ripe(0, 0, 5));
        Check.index("no such ROOM", () -> x.ripe(0, -2, 5));
        Check.range("a TIME that is over", () -> x.ripe(0, -1, 2));
        Check.range("no such TIME", () -> x.ripe(0, -1, 672));
        Check.due("at NOW", x.ripe(0, -1, 3), 115);
        Check.due("at the last TIME", x.ripe(0, -1, 671), 2000);
        x.dump(0);
        Check.range("not THERE, no such TIME", () -> x.ripe(0, -1, 2));
        Check.index("not THERE, no such ROOM", () -> x.ripe(0, 0, 5));
    }

    /** 18 on THE FLOOR makes 5 more in an HOUR: from 100 it is FINE, at 240, behind 28 HOURS. */
    private static void best() {
        MarketHall x = Given.sortAndGrower();
        Check.due("nothing is there", x.best(0, 0), 0);
        Check.due("nothing is there", x.best(0, 1), -1);
        x.room(2, 9, 0);
        x.set(0, 4);
        x.deliver(0, 0, 5, 100, 0);
        x.deliver(0, 0, 5, 350, 0);
        Check.due("both FINE", x.best(28, 0), 2);
        Check.due("the first one stays", x.best(28, 1), 6);
        Check.due("the second one is kept cold", x.best(28, 2), 0);
        Check.due("there is no third one", x.best(28, 3), -1);
        Check.due("at NOW", x.best(0, 0), 1);
        Check.due("all stay at NOW", x.best(0, 2), 6);
        x.pass(2);
        Check.range("a TIME that is over", () -> x.best(1, 0));
        Check.range("too late a TIME", () -> x.best(51, 0));
        Check.range("what -1", () -> x.best(5, -1));
        Check.range("what 4", () -> x.best(5, 4));
        Check.due("48 HOURS from NOW", x.best(50, 1), 6);
        MarketHall y = new MarketHall();
        for (int n = 0; n < 9; n++) {
            y.pass(72);
        }
        Check.due("the last TIME", y.best(671, 0), 0);
        Check.range("behind the last TIME", () -> y.best(672, 0));
    }

    /** ROOMS that are warm by their DOORS alone: each PALLET that comes makes all there ripen by 1 more in an HOUR. */
    private static void bestByDoors() {
        MarketHall x = new MarketHall();
        x.sort(8, 4, 0, 300, 60);
        x.grower(0, 0);
        x.outside(0, 4);
        x.room(3, 0, 0);
        x.room(3, 0, 0);
        x.outside(0, 40);
        for (int n = 0; n < 3; n++) {
            x.deliver(0, 0, 5, 350, 0);
        }
        int[][] due = {{3, 0, 0, 0}, {3, 0, 0, 1}, {2, 6, 0, 1}, {0, 6, 6, 6}};
        int[] times = {3, 5, 9, 11};
        for (int n = 0; n < times.length; n++) {
            for (int what = 0; what < 4; what++) {
                Check.due("best(" + times[n] + ", " + what + ") by DOORS", x.best(times[n], what), due[n][what]);
            }
        }
    }

    private static void bestOfLikeOnes() {
        MarketHall x = Given.sortAndGrower();
        x.room(1, 9, 0);
        x.room(1, 9, 0);
        x.room(1, 9, 0);
        for (int room = 0; room < 3; room++) {
            x.set(room, 4);
        }
        for (int n = 0; n < 4; n++) {
            x.deliver(0, 0, 5, 350, 0);
        }
        Check.due("three of four stay FINE", x.best(20, 0), 3);
        Check.due("the first ROOM for the first one", x.best(20, 1), 0);
        Check.due("the second ROOM", x.best(20, 2), 1);
        Check.due("the third ROOM", x.best(20, 3), 2);
        x.put(3, 0);
        Check.due("one ROOM is full", x.best(20, 0), 3);
        Check.due("the first one stays", x.best(20, 1), 6);
        Check.due("the second one goes", x.best(20, 2), 1);
    }

    /** Each way is put, and ripens, on an image. */
    private static void bestAgainstAllWays() {
        for (int seed = 1; seed <= 40; seed++) {
            MarketHall x = new MarketHall();
            x.season(seed * 977, 8);
            for (int pallet = 0; pallet < 8; pallet++) {
                if (x.pallet(pallet, 10) == MarketHall.QUEUED) {
                    x.withdraw(pallet);
                }
            }
            for (int n = 0; n < x.sum(19); n++) {
                x.round(n, 0, 0);
            }
            int time = 5 * seed % 49;
            int[] due = bestByTrying(x, time);
            for (int what = 0; what < 4; what++) {
                Check.due("best(" + time + ", " + what + ") of season " + seed, x.best(time, what), due[what]);
            }
        }
    }

    private static int[] bestByTrying(MarketHall x, int time) {
        int[] three = {-1, -1, -1};
        int many = 0;
        for (int n = 0; n < x.sum(4) && many < 3; n++) {
            if (x.pallet(n, 12) == 6) {
                three[many] = n;
                many++;
            }
        }
        int[] best = {-1, -1, -1, -1};
        int rooms = x.sum(3);
        x.keep(0);
        for (int way = 0; way < Math.pow(rooms + 1, many); way++) {
            int[] goes = {-1, -1, -1};
            boolean can = true;
            int rest = way;
            for (int n = many - 1; n >= 0; n--) {
                goes[n] = rest % (rooms + 1);
                rest /= rooms + 1;
            }
            for (int n = 0; n < many && can; n++) {
                can = goes[n] == 0 || x.kept(goes[n] - 1, 6) < x.kept(goes[n] - 1, 0);
                if (can && goes[n] > 0) {
                    x.put(three[n], goes[n] - 1);
                }
            }
            if (can && time > 0) {
                x.pass(time);
            }
            int fine = 0;
            for (int n = 0; n < x.sum(4); n++) {
                fine += x.pallet(n, 11) == 1 ? 1 : 0;
            }
            if (can && fine > best[0]) {
                best[0] = fine;
                for (int n = 0; n < 3; n++) {
                    best[n + 1] = n >= many ? -1 : goes[n] == 0 ? 6 : goes[n] - 1;
                }
            }
            x.again(0);
        }
        return best;
    }
}
