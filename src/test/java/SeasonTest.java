/** Promises 29 to 33: sign, tasks, season, pass, undo, keep, again, isSound, sum. */
public final class SeasonTest {

    public static void main(String[] args) {
        signs();
        tasksThatAreNone();
        tasksAreDone();
        tasksStopAtARefusal();
        tasksAreOneDeed();
        season();
        seasonIsRefused();
        pass();
        stepsOfAnHour();
        undo();
        deeds();
        whatIsNoDeed();
        refusalsChangeNothing();
        images();
        isSound();
        sums();
        Check.end();
    }

    private static void write(MarketHall x, String text) {
        for (int n = 0; n < text.length(); n++) {
            x.sign(text.charAt(n));
        }
    }

    private static void signs() {
        MarketHall x = new MarketHall();
        Check.range("code 31", () -> x.sign(31));
        Check.range("code 127", () -> x.sign(127));
        for (int n = 1; n <= 120; n++) {
            Check.due("sign", x.sign(n % 2 == 0 ? 32 : 126), n);
        }
        Check.state("120 signs", () -> x.sign(59));
        Check.range("120 signs, code out of range", () -> x.sign(0));
        Check.due("signs", x.sum(23), 120);
        Check.due("tasks", x.tasks(), -2);
        Check.due("no signs then", x.sum(23), 0);
    }

    /** A text, and the place of the sign that can not stand there, or how many signs there are. */
    private static void tasksThatAreNone() {
        String[] texts = {"", "x", "P0,0;", ";", "p", "p;", "p,", "p-", "p0", "p0;", "p0,", "p0,;", "p0,-", "p0,--", "p0,-0",
            "p0,-;x", "p0,0,", "p123456", "p0,123456;", "p0,0; ", " p0,0;", "p 0,0;", "q0,0,1,1", "q0,0,1;", "q0,0,1,1,",
            "q-", "q0,0,-", "w0,", "w-;", "l0,-;", "l-", "g0,-", "g-,0;", "d0", "d;", "c0,0;", "c;", "w0;w", "w0;w0", "w0;;"};
        int[] due = {0, 0, 0, 0, 1, 1, 1, 1, 2, 2, 3, 3, 4, 4, 4,
            5, 4, 6, 8, 5, 0, 1, 8, 6, 8,
            1, 5, 2, 1, 3, 1, 4, 1, 2, 1, 2, 1, 4, 5, 3};
        for (int n = 0; n < texts.length; n++) {
            MarketHall x = new MarketHall();
            write(x, texts[n]);
            Check.due("tasks of '" + texts[n] + "'", x.tasks(), -2 - due[n]);
            Check.due("no signs then", x.sum(23), 0);
            Check.due("no DEED", x.sum(21), 0);
        }
    }

    private static MarketHall market() {
        MarketHall x = Given.open();
        x.truck(40, 4);
        x.room(3, 0, 0);
        return x;
    }

    private static void tasksAreDone() {
        MarketHall x = market();
        int first = Given.graded(x, 5);
        int second = Given.graded(x, 6);
        write(x, "p0,0;q0,1,00300,20;p1,00000;p0,-;");
        Check.due("tasks", x.tasks(), 4);
        Check.due("put", x.pallet(first, 12), 6);
        Check.due("queued", x.lot(0, 0, 0), second);
        Check.due("START", x.lot(0, 0, 1), 300);
        Check.due("RESERVE", x.lot(0, 0, 2), 20);
        Check.due("put while it is QUEUED", x.pallet(second, 12), 0);
        write(x, "w1;g0,12;");
        Check.due("tasks", x.tasks(), 2);
        Check.due("withdrawn", x.pallet(second, 10), MarketHall.STORED);
        Check.due("its GO", x.haul(0, 3), 12);
        write(x, "g0,-;");
        x.tasks();
        Check.due("no GO", x.haul(0, 3), -1);
        Given.sold(x, 0, 5, 100);
        int parcel = Given.sold(x, 0, 5, 100);
        x.truck(40, 4);
        write(x, "l1,0;l0,1;d1;c1;");
        Check.due("the ORDER is cancelled already", x.tasks(), 3);
        Check.due("its TRUCK", x.parcel(parcel, 10), 0);
        Check.due("the TRUCK of the other one", x.parcel(0, 10), 1);
        Check.due("dumped", x.pallet(second, 10), MarketHall.DUMPED);
        int order = x.order(0, 0, 0, 1, 1, 1);
        write(x, "c" + order + ";");
        Check.due("tasks", x.tasks(), 1);
        Check.due("cancelled", x.ordered(order, 7), 1);
    }

    private static void tasksStopAtARefusal() {
        MarketHall x = market();
        Given.graded(x, 5);
        Given.graded(x, 5);
        write(x, "d0;d0;d1;");
        Check.due("tasks", x.tasks(), 1);
        Check.due("the one behind it is not done", x.pallet(1, 10), MarketHall.STORED);
        int deeds = x.sum(21);
        String[] refused = {"p9,0;", "p1,1;", "p1,-;", "q1,1,5,5;", "q0,9,5,5;", "q0,1,5,6;", "q0,0,5,5;", "w1;", "l0,0;", "g1,5;",
            "g0,0;", "g0,99999;", "d0;", "c0;"};
        for (String text : refused) {
            write(x, text);
            Check.due("tasks of " + text, x.tasks(), 0);
        }
        Check.due("no DEED", x.sum(21), deeds);
        Check.due("nothing is changed", x.pallet(1, 12), 6);
    }

    private static void tasksAreOneDeed() {
        MarketHall x = market();
        Given.graded(x, 5);
        Given.graded(x, 5);
        int deeds = x.sum(21);
        write(x, "d0;d1;");
        x.tasks();
        Check.due("DEEDS", x.sum(21), deeds + 1);
        Check.due("worked anew", x.isSound(8), true);
        x.sign(100);
        Check.due("undo", x.undo(), 7);
        Check.due("both are THERE again", x.sum(5), 2);
        Check.due("THE SLATE stays", x.sum(23), 1);
        write(x, "0;");
        Check.due("tasks", x.tasks(), 1);
        Check.due("worked anew", x.isSound(8), true);
    }

    /** Each number that a season draws is told here once more. */
    private static void season() {
        for (int size = 1; size <= 12; size++) {
            MarketHall x = new MarketHall();
            Check.due("season", x.season(40 * size, size), size);
            Draws d = new Draws(40 * size);
            seasonGoods(x, d, size);
            int rooms = seasonStores(x, d, size);
            seasonBuyers(x, d, size);
            seasonClocks(x, d, size);
            seasonCarriers(x, d, size);
            seasonRounds(x, d, rooms);
            Check.due("one DEED", x.sum(21), 1);
            Check.due("isSound(0)", x.isSound(0), true);
            Check.due("no ENTRIES", x.account(0), 0);
        }
    }

    private static final class Draws {
        private long x;

        Draws(long seed) {
            x = seed;
        }

        int of(int n) {
            x = (25173 * x + 13849) % 65536;
            return (int) (x / 16 % n);
        }
    }

    private static void seasonGoods(MarketHall x, Draws d, int size) {
        int sorts = 2 + d.of(4);
        Check.due("SORTS", x.sum(1), sorts);
        int[][] sort = new int[sorts][];
        for (int n = 0; n < sorts; n++) {
            sort[n] = new int[] {1 + d.of(9), d.of(13), d.of(13), 100 + d.of(501), 10 + d.of(90)};
        }
        int growers = 2 + d.of(5);
        Check.due("GROWERS", x.sum(2), growers);
        for (int n = 0; n < growers; n++) {
            Check.due("CUT", x.grown(n, 0), d.of(26));
            Check.due("CARE", x.grown(n, 1), d.of(10));
        }
        for (int n = 0; n < size; n++) {
            int grower = d.of(growers);
            int ofSort = d.of(sorts);
            int crates = 1 + d.of(40);
            int ripe = d.of(301);
            int bad = d.of(crates * (10 - x.grown(grower, 1)) / 10 + 1);
            int grade = d.of(2) == 1 ? d.of(4) : -1;
            int[] told = {grower, ofSort, 0, crates, crates, bad, 0, ripe, 0, grade};
            for (int what = 0; what < told.length; what++) {
                Check.due("season's pallet(" + n + ", " + what + ")", x.pallet(n, what), told[what]);
            }
            int prime = sort[ofSort][3];
            int span = sort[ofSort][4];
            int stage = ripe < prime - span ? 0 : ripe <= prime + span ? 1 : ripe <= prime + 3 * span ? 2 : 3;
            Check.due("its STAGE", x.pallet(n, 11), stage);
            Check.due("never graded", x.pallet(n, 14), 0);
        }
        x.keep(0);
        for (int n = 0; n < sorts; n++) {
            seasonSort(x, n, sort[n]);
            x.again(0);
        }
    }

    /** What a SORT is, by the STAGES of what is delivered and by how that ripens and is harmed. */
    private static void seasonSort(MarketHall x, int number, int[] sort) {
        x.dump(0);
        for (int stage = 0; stage < 3; stage++) {
            int last = stage == 0 ? sort[3] - sort[4] - 1 : sort[3] + (2 * stage - 1) * sort[4];
            for (int more = 0; more < 2; more++) {
                int pallet = x.deliver(0, number, 1, last + more, 0);
                Check.due("the STAGE of " + (last + more), x.pallet(pallet, 11), stage + more);
                x.dump(pallet);
            }
        }
        int pallet = x.deliver(0, number, 1, 0, 0);
        for (int warmth = 0; warmth <= 40; warmth++) {
            x.outside(0, warmth);
            Check.due("RIPE at " + warmth, x.ripe(pallet, -1, 1), sort[0] * Math.max(0, warmth - sort[1]) / 8);
            x.pass(1);
            Check.due("HARM at " + warmth, x.pallet(pallet, 8), warmth < sort[2] ? 1 : 0);
            x.undo();
        }
    }

    private static int seasonStores(MarketHall x, Draws d, int size) {
        int rooms = d.of(5);
        Check.due("ROOMS", x.sum(3), rooms);
        for (int n = 0; n < rooms; n++) {
            int[] told = {1 + d.of(12), d.of(10), d.of(10), d.of(41), d.of(2), 18};
            for (int what = 0; what < told.length; what++) {
                Check.due("season's kept(" + n + ", " + what + ")", x.kept(n, what), told[what]);
            }
        }
        x.keep(0);
        for (int day = 0; day < 28; day++) {
            Check.due("OUTSIDE on DAY " + day, x.outside(day, 0), d.of(41));
        }
        x.again(0);
        int[] stand = new int[rooms + 1];
        for (int n = 0; n < size; n++) {
            int room = d.of(rooms + 1);
            boolean can = room < rooms && stand[room] < x.kept(room, 0);
            if (can) {
                stand[room]++;
            }
            Check.due("where it stands", x.pallet(n, 12), can ? room : 6);
        }
        for (int n = 0; n < rooms; n++) {
            Check.due("DOORS", x.kept(n, 7), stand[n]);
        }
        return rooms;
    }

    private static void seasonBuyers(MarketHall x, Draws d, int size) {
        int buyers = Math.min(8, 2 * size);
        Check.due("BUYERS", x.sum(10), buyers);
        for (int n = 0; n < buyers; n++) {
            Check.due("TOWN", x.owes(n, 0), d.of(5));
            Check.due("CREDIT", x.owes(n, 1), 100000 * (d.of(40) + 1));
            Check.due("TERM", x.owes(n, 2), d.of(8));
        }
        int orders = Math.min(24, 4 * size);
        Check.due("ORDERS", x.sum(11), orders);
        for (int n = 0; n < orders; n++) {
            int[] told = {d.of(buyers), d.of(x.sum(1)), d.of(4), 1 + d.of(40), 100 + d.of(900), 1 + d.of(127)};
            for (int what = 0; what < told.length; what++) {
                Check.due("season's ordered(" + n + ", " + what + ")", x.ordered(n, what), told[what]);
            }
        }
    }

    private static void seasonClocks(MarketHall x, Draws d, int size) {
        int clocks = size > 3 ? 2 : 1;
        Check.due("CLOCKS", x.sum(17), clocks);
        for (int n = 0; n < clocks; n++) {
            int[] told = {4 + d.of(4), 1 + d.of(4), 1 + d.of(4), 10 * d.of(9) + 10, d.of(5)};
            for (int what = 0; what < told.length; what++) {
                Check.due("season's hand(" + n + ", " + what + ")", x.hand(n, what), told[what]);
            }
        }
        int[] lots = new int[clocks];
        for (int n = 0; n < size; n++) {
            if (x.pallet(n, 9) >= 0) {
                int clock = d.of(clocks);
                int start = 200 + 50 * d.of(40);
                int reserve = Math.max(1, start - x.hand(clock, 3) * d.of(60));
                Check.due("its PALLET", x.lot(clock, lots[clock], 0), n);
                Check.due("its START", x.lot(clock, lots[clock], 1), start);
                Check.due("its RESERVE", x.lot(clock, lots[clock], 2), reserve);
                lots[clock]++;
            }
        }
        for (int n = 0; n < clocks; n++) {
            Check.due("LOTS", x.hand(n, 5), lots[n]);
        }
    }

    private static void seasonCarriers(MarketHall x, Draws d, int size) {
        x.keep(0);
        for (int a = 0; a < 6; a++) {
            for (int b = a + 1; b < 6; b++) {
                Check.due("WAY", x.way(b, a, 1), 1 + d.of(12));
            }
        }
        Check.due("DOCKS", x.docks(1), 1 + d.of(4));
        x.again(0);
        int trucks = Math.min(4, size);
        Check.due("TRUCKS", x.sum(18), trucks);
        for (int n = 0; n < trucks; n++) {
            Check.due("SPACE", x.haul(n, 0), 20 + d.of(60));
            Check.due("WARMTH", x.haul(n, 1), 2 + d.of(13));
        }
    }

    private static void seasonRounds(MarketHall x, Draws d, int rooms) {
        int inspectors = d.of(3);
        Check.due("INSPECTORS", x.sum(19), inspectors);
        for (int n = 0; n < inspectors; n++) {
            Check.due("HOUR", x.looked(n, 0), d.of(19));
            Check.due("STRICT", x.looked(n, 1), d.of(4));
            Check.due("WEEKDAYS", x.looked(n, 2), d.of(128));
            int many = d.of(7);
            int stops = 0;
            for (int stop = 0; stop < many; stop++) {
                int where = d.of(rooms + 1);
                stops = stops * 10 + (where < rooms ? where + 1 : 7);
            }
            Check.due("STOPS", x.looked(n, 3), stops);
        }
    }

    private static void seasonIsRefused() {
        MarketHall x = new MarketHall();
        Check.range("seed -1", () -> x.season(-1, 1));
        Check.range("seed 65536", () -> x.season(65536, 1));
        Check.range("size 0", () -> x.season(0, 0));
        Check.range("size 13", () -> x.season(0, 13));
        x.keep(0);
        x.sign(59);
        x.docks(2);
        Check.state("the RECORD has a DEED", () -> x.season(0, 1));
        Check.range("the RECORD has a DEED, size out of range", () -> x.season(0, 13));
        x.undo();
        Check.due("it has none any more", x.season(65535, 1), 1);
        x.again(0);
        Check.due("the image has none", x.season(65535, 12), 12);
        Check.due("THE SLATE stays", x.sum(23), 1);
    }

    private static void pass() {
        MarketHall x = new MarketHall();
        Check.range("hours 0", () -> x.pass(0));
        Check.range("hours 73", () -> x.pass(73));
        for (int n = 1; n <= 9; n++) {
            Check.due("pass", x.pass(72), 72 * n);
        }
        Check.state("behind 671", () -> x.pass(24));
        Check.range("behind 671, hours out of range", () -> x.pass(73));
        Check.due("pass", x.pass(23), 671);
        Check.state("behind 671", () -> x.pass(1));
        Check.due("NOW", x.sum(0), 671);
    }

    /** All in the HOUR 3: the TRUCK comes, warmth, a LOOK, a CLOCK, a TRUCK goes; each finds what is left. */
    private static void stepsOfAnHour() {
        MarketHall x = new MarketHall();
        x.sort(8, 0, 0, 300, 10);
        x.grower(0, 0);
        x.buyer(0, 900000, 0);
        x.clock(3, 1, 6, 10, 0);
        x.inspector(3, 0);
        x.round(0, 127, 7);
        x.truck(40, 0);
        int soft = x.deliver(0, 0, 5, 300, 0);
        int rotten = x.deliver(0, 0, 5, 277, 0);
        x.grade(soft, 1, 0, 0);
        x.grade(rotten, 1, 0, 0);
        x.outside(0, 18);
        x.order(0, 0, 3, 99, 100, 0b0000001);
        x.queue(0, rotten, 100, 100);
        x.queue(0, soft, 100, 100);
        x.send(0, 3);
        x.pass(3);
        Check.due("ROTTEN by step 3", x.pallet(soft, 7), 354);
        Check.due("SEIZED by step 4", x.sum(8), 2);
        Check.due("not SOLD by step 5", x.sum(12), 0);
        Check.due("an empty TRUCK does not go", x.haul(0, 3) * 10 + x.haul(0, 11), -10);
        int fresh = x.deliver(0, 0, 5, 0, 0);
        x.grade(fresh, 1, 0, 0);
        x.pass(1);
        x.clock(0, 1, 1, 10, 0);
        x.queue(1, fresh, 100, 100);
        x.pass(20);
        Check.due("it is DAY 1 for the CLOCKS of HOUR 0", x.sum(12), 0);
        Check.due("the LOT is over", x.hand(1, 8), 1);
        MarketHall y = Given.open();
        y.truck(40, 4);
        y.load(Given.sold(y, 0, 5, 100), 0);
        y.way(1, 5, 11);
        y.send(0, 2);
        y.pass(72);
        Check.due("the HAUL of DAY 1 is closed with it", y.account(5), 0);
    }

    private static void undo() {
        MarketHall x = new MarketHall();
        Check.state("nothing to undo", () -> x.undo());
        for (int n = 0; n < 10; n++) {
            x.pass(1);
        }
        Check.due("how many can be undone", x.sum(22), 8);
        for (int n = 7; n >= 0; n--) {
            Check.due("undo", x.undo(), n);
            Check.due("NOW", x.sum(0), n + 2);
            Check.due("DEEDS", x.sum(21), n + 2);
        }
        Check.state("no more than 8", () -> x.undo());
        x.pass(5);
        x.outside(3, 3);
        x.outside(3, 4);
        x.undo();
        Check.due("the latest one first", x.outside(3, 5), 3);
        Check.due("how many can be undone", x.sum(22), 3);
        Check.due("isSound(8)", x.isSound(8), true);
        x.sign(59);
        x.keep(1);
        x.undo();
        Check.due("THE SLATE stays", x.sum(23), 1);
        Check.due("the images stay", x.again(1), 5);
    }

    /** Each one of these is a DEED, though it may change nothing. */
    private static void deeds() {
        MarketHall x = new MarketHall();
        Runnable[] deeds = {() -> x.sort(1, 0, 0, 300, 60), () -> x.grower(0, 0), () -> x.deliver(0, 0, 9, 300, 0),
            () -> x.grade(0, 1, 0, 0), () -> x.room(2, 0, 0), () -> x.set(0, 18), () -> x.gas(0, false),
            () -> x.outside(0, 18), () -> x.put(0, 0), () -> x.put(0, -1), () -> x.buyer(0, 9999, 0),
            () -> x.order(0, 0, 0, 4, 100, 127), () -> x.pay(0, 1), () -> x.clock(0, 6, 6, 10, 0),
            () -> x.queue(0, 0, 100, 100), () -> x.withdraw(0), () -> x.queue(0, 0, 100, 100), () -> x.way(0, 1, 3),
            () -> x.docks(2), () -> x.truck(40, 18), () -> x.pass(1), () -> x.load(0, 0), () -> x.send(0, 2),
            () -> x.send(0, 2), () -> x.inspector(0, 0), () -> x.round(0, 0, 0), () -> x.tariff(0, 50), () -> x.pass(4),
            () -> x.quarrel(0, 0), () -> x.cancel(0), () -> x.dump(0)};
        for (int n = 0; n < deeds.length; n++) {
            deeds[n].run();
            Check.due("DEEDS behind number " + n, x.sum(21), n + 1);
            Check.due("worked anew behind number " + n, x.isSound(8), true);
        }
    }

    private static void whatIsNoDeed() {
        MarketHall x = market();
        Given.graded(x, 5);
        x.queue(0, 0, 100, 50);
        x.inspector(3, 0);
        int deeds = x.sum(21);
        x.keep(0);
        x.sign(32);
        x.tasks();
        x.best(20, 0);
        x.ripe(0, 0, 99);
        x.takings(0, 1, 0);
        x.bestRow(0, -1);
        x.bestStart(0, 0, 10, 0);
        x.worst(0, 0);
        x.match(0);
        x.isSound(0);
        x.fewest(10, 5);
        Check.due("DEEDS", x.sum(21), deeds);
        Check.due("how many can be undone", x.sum(22), 8);
    }

    private static void refusalsChangeNothing() {
        MarketHall x = market();
        int deeds = x.sum(21);
        Runnable[] refused = {() -> x.sort(0, 0, 0, 300, 60), () -> x.grower(0, 10), () -> x.deliver(0, 0, 41, 0, 0),
            () -> x.grade(0, 1, 0, 0), () -> x.room(0, 0, 0), () -> x.set(0, 41), () -> x.gas(1, true), () -> x.outside(28, 0),
            () -> x.put(0, 0), () -> x.dump(0), () -> x.buyer(5, 0, 0), () -> x.order(0, 0, 0, 1, 1, 0), () -> x.cancel(0),
            () -> x.pay(0, 0), () -> x.clock(0, 0, 1, 1, 0), () -> x.queue(0, 0, 1, 1), () -> x.withdraw(0), () -> x.way(0, 0, 1),
            () -> x.docks(0), () -> x.truck(0, 0), () -> x.load(0, 0), () -> x.send(0, 0), () -> x.inspector(19, 0),
            () -> x.round(0, 0, 0), () -> x.tariff(4, 0), () -> x.quarrel(0, 0), () -> x.pass(0), () -> x.season(0, 0),
            () -> x.keep(2), () -> x.again(0)};
        for (Runnable one : refused) {
            boolean threw = false;
            try {
                one.run();
            } catch (RuntimeException e) {
                threw = true;
            }
            Check.due("it is refused", threw, true);
        }
        Check.due("DEEDS", x.sum(21), deeds);
        Check.due("worked anew", x.isSound(8), true);
    }

    private static void images() {
        MarketHall x = market();
        Check.range("slot -1", () -> x.keep(-1));
        Check.range("slot 2", () -> x.keep(2));
        Check.range("slot -1", () -> x.again(-1));
        Check.range("slot 2", () -> x.again(2));
        Check.state("nothing is kept there", () -> x.again(1));
        int deeds = x.sum(21);
        Check.due("keep", x.keep(0), deeds);
        x.pass(5);
        x.pay(0, 77);
        Check.due("keep", x.keep(1), deeds + 2);
        Check.due("again", x.again(0), deeds);
        Check.due("NOW", x.sum(0), 0);
        Check.due("PURSE", x.owes(0, 3), 0);
        Check.state("nothing can be undone", () -> x.undo());
        Check.due("worked anew", x.isSound(8), true);
        x.pass(9);
        Check.due("again", x.again(1), deeds + 2);
        Check.due("NOW", x.sum(0), 5);
        Check.due("PURSE", x.owes(0, 3), 77);
        Check.due("worked anew", x.isSound(8), true);
        x.pass(1);
        Check.due("what is done since can be undone", x.undo(), 0);
        Check.due("again once more", x.again(0), deeds);
        Check.due("kept over the other one", x.keep(1), deeds);
        Check.due("again", x.again(1), deeds);
    }

    private static void isSound() {
        MarketHall x = new MarketHall();
        Check.range("part -1", () -> x.isSound(-1));
        Check.range("part 9", () -> x.isSound(9));
        x.season(4711, 9);
        for (int day = 0; day < 28; day++) {
            for (int part = 0; part <= 8; part++) {
                Check.due("isSound(" + part + ") on DAY " + day, x.isSound(part), true);
            }
            x.pass(day < 27 ? 24 : 23);
        }
    }

    private static void sums() {
        MarketHall x = market();
        Check.range("what -1", () -> x.sum(-1));
        Check.range("what 24", () -> x.sum(24));
        x.docks(4);
        x.grower(0, 0);
        x.sort(1, 0, 0, 300, 60);
        x.sort(1, 0, 0, 300, 60);
        for (int n = 0; n < 5; n++) {
            Given.sold(x, 0, 5, 100);
        }
        x.load(0, 0);
        x.load(1, 0);
        x.send(0, 6);
        x.truck(40, 4);
        x.load(2, 1);
        x.dump(3);
        x.pass(4);
        x.queue(0, x.deliver(0, 0, 5, 300, 0), 5, 5);
        x.inspector(18, 0);
        x.quarrel(0, 0);
        x.dump(x.deliver(0, 0, 5, 300, 0));
        int rotten = x.deliver(0, 0, 5, 999, 0);
        x.put(rotten, 0);
        x.round(0, 127, 1);
        x.pass(9);
        x.sign(59);
        int[] due = {18, 3, 2, 1, 8, 1, 1, 3, 1, 2, 1, 5, 5, 1, 1, 2, 1, 1, 2, 1, 1};
        for (int what = 0; what < due.length; what++) {
            Check.due("sum(" + what + ")", x.sum(what), due[what]);
        }
        Check.due("how many can be undone", x.sum(22), 8);
        Check.due("signs", x.sum(23), 1);
    }
}
