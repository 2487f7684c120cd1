/**
 * A wholesale market for a season: what is told, delivered, graded, stored, ordered, sold, loaded,
 * sent, looked at, entered, quarrelled about, kept and asked there.
 */
public final class MarketHall {

    public static final int NONE = -1;
    public static final int STORED = 0, QUEUED = 1, CLEARED = 2, SEIZED = 3, DUMPED = 4;
    public static final int WAITING = 0, LOADED = 1, COME = 2, LOST = 3;

    private static final int MOST_SORTS = 5, MOST_GROWERS = 6, MOST_ROOMS = 6, MOST_PALLETS = 48;
    private static final int MOST_BUYERS = 8, MOST_ORDERS = 24, MOST_PARCELS = 60, MOST_CLOCKS = 2;
    private static final int MOST_TRUCKS = 4, MOST_INSPECTORS = 2, MOST_QUARRELS = 12, MOST_LOTS = 12;
    private static final int FLOOR_PLACES = 12, KEPT_FINDINGS = 24, KEPT_ENTRIES = 60;
    private static final int MOST_SIGNS = 120, UNDOABLE = 8, SLOTS = 2;
    private static final int DAYS = 28, LAST_TIME = 671, TOWNS = 5, MOST_STOPS = 6;
    private static final int MOST_RIPE = 2000, MOST_HARM = 999, MOST_PRICE = 9999, MOST_FALLS = 200;

    /** Where a PALLET on THE FLOOR stands, and THE HALL where a TOWN can be told. */
    private static final int FLOOR = 6, THE_HALL = 5;

    /** The first figure of a STOP that is no ROOM: THE FLOOR. */
    private static final int FLOOR_STOP = 7;

    private static final int GREEN = 0, FINE = 1, SOFT = 2, ROTTEN = 3;

    /** What refuses a call, if anything does. */
    private static final int FITS = 0, NO_THING = 1, OUT_OF_RANGE = 2, NOT_NOW = 3;

    /** Places of Hall.of: how many of each came; then single numbers; the last two tell of the RECORD alone. */
    private static final int SORTS = 0, GROWERS = 1, ROOMS = 2, PALLETS = 3, BUYERS = 4, ORDERS = 5,
            PARCELS = 6, CLOCKS = 7, TRUCKS = 8, INSPECTORS = 9, QUARRELS = 10, FINDINGS = 11, ENTRIES = 12,
            NOW = 13, DOCKS = 14, DEEDS = 15, LATEST_ACT = 16, NUMBERS = 17, NUMBERS_OF_THE_SEASON = 15;

    private static final int SORT_PACE = 0, SORT_BASE = 1, SORT_CHILL = 2, SORT_PRIME = 3, SORT_SPAN = 4,
            SORT_WIDE = 5;

    private static final int GROWER_CUT = 0, GROWER_CARE = 1, GROWER_DUE = 2, GROWER_GROSS = 3, GROWER_FEES = 4,
            GROWER_SHARES = 5, GROWER_PAID = 6, GROWER_WIDE = 7;

    /** Columns stand where the face's `what` has them, so that most are told as they stand. */
    private static final int ROOM_PLACES = 0, ROOM_POWER = 1, ROOM_LEAK = 2, ROOM_SET = 3, ROOM_GAS = 4,
            ROOM_WARMTH = 5, ROOM_STANDING = 6, ROOM_DOORS = 7, ROOM_WORKED = 8, ROOM_SINCE = 9, ROOM_SHUT = 10,
            ROOM_WIDE = 11;

    private static final int PALLET_GROWER = 0, PALLET_SORT = 1, PALLET_CAME = 2, PALLET_BROUGHT = 3,
            PALLET_CRATES = 4, PALLET_BAD = 5, PALLET_SPOILT = 6, PALLET_RIPE = 7, PALLET_HARM = 8,
            PALLET_GRADE = 9, PALLET_STATE = 10, PALLET_STAGE = 11, PALLET_WHERE = 12, PALLET_WAITING = 13,
            PALLET_GRADED = 14, PALLET_FOUND = 15, PALLET_WIDE = 16;

    private static final int BUYER_TOWN = 0, BUYER_CREDIT = 1, BUYER_TERM = 2, BUYER_PURSE = 3, BUYER_UNPAID = 4,
            BUYER_LEFT = 5, BUYER_OVERDUE = 6, BUYER_BLOCKED = 7, BUYER_OPEN = 8, BUYER_SOLD = 9, BUYER_GOT = 10,
            BUYER_LOST = 11, BUYER_PAID_IN = 12, BUYER_GIVEN_BACK = 13, BUYER_ORDERS = 14, BUYER_WIDE = 15;

    private static final int ORDER_BUYER = 0, ORDER_SORT = 1, ORDER_WORST = 2, ORDER_ASKED = 3, ORDER_LIMIT = 4,
            ORDER_WEEKDAYS = 5, ORDER_WANTED = 6, ORDER_CANCELLED = 7, ORDER_SOLD = 8, ORDER_ASKS = 9,
            ORDER_WIDE = 10;

    private static final int PARCEL_PALLET = 0, PARCEL_BUYER = 1, PARCEL_ORDER = 2, PARCEL_CRATES = 3,
            PARCEL_BAD = 4, PARCEL_PRICE = 5, PARCEL_SOLD = 6, PARCEL_GRADE = 7, PARCEL_SOLD_RIPE = 8,
            PARCEL_STATE = 9, PARCEL_TRUCK = 10, PARCEL_RIPE = 11, PARCEL_HARM = 12, PARCEL_STAGE = 13,
            PARCEL_LOADED = 14, PARCEL_LOADED_RIPE = 15, PARCEL_LOADED_HARM = 16, PARCEL_DONE = 17,
            PARCEL_GROSS = 18, PARCEL_UNPAID = 19, PARCEL_PAYDAY = 20, PARCEL_WIDE = 21;

    private static final int CLOCK_FROM = 0, CLOCK_HOURS = 1, CLOCK_SPEED = 2, CLOCK_STEP = 3, CLOCK_RISE = 4,
            CLOCK_LOTS = 5, CLOCK_HAND = 6, CLOCK_LAST = 7, CLOCK_OVER = 8, CLOCK_PARCELS = 9, CLOCK_CRATES = 10,
            CLOCK_GROSS = 11, CLOCK_OPEN = 12, CLOCK_WIDE = 12;

    private static final int LOT_PALLET = 0, LOT_START = 1, LOT_RESERVE = 2, LOT_WIDE = 3;

    private static final int TRUCK_SPACE = 0, TRUCK_WARMTH = 1, TRUCK_OUT = 2, TRUCK_GO = 3, TRUCK_CRATES = 4,
            TRUCK_PARCELS = 5, TRUCK_LONG = 6, TRUCK_WENT = 7, TRUCK_HOME = 8, TRUCK_NEXT = 9, TRUCK_GONE = 10,
            TRUCK_TIMES = 11, TRUCK_TRIP = 12, TRUCK_DUE = 17, TRUCK_WIDE = 22;

    private static final int INSPECTOR_HOUR = 0, INSPECTOR_STRICT = 1, INSPECTOR_WEEKDAYS = 2, INSPECTOR_STOPS = 3,
            INSPECTOR_LOOKS = 4, INSPECTOR_FINDINGS = 5, INSPECTOR_SEIZED = 6, INSPECTOR_LATEST = 7,
            INSPECTOR_NEXT = 8, INSPECTOR_NEXT_STOP = 9, INSPECTOR_WIDE = 8;

    private static final int FINDING_INSPECTOR = 0, FINDING_TIME = 1, FINDING_PALLET = 2, FINDING_KIND = 3,
            FINDING_STOP = 4, FINDING_GRADE = 5, FINDING_WIDE = 6;

    private static final int ENTRY_FROM = 0, ENTRY_TO = 1, ENTRY_CENTS = 2, ENTRY_PALLET = 3, ENTRY_TIME = 4,
            ENTRY_WIDE = 5;

    private static final int QUARREL_PARCEL = 0, QUARREL_CAUSE = 1, QUARREL_STATE = 2, QUARREL_AWARD = 3,
            QUARREL_SHARES = 4, QUARREL_TIME = 7, QUARREL_WIDE = 8;

    /** Kinds of acts: what a DEED of the RECORD does. */
    private static final int ACT_SORT = 0, ACT_GROWER = 1, ACT_DELIVER = 2, ACT_GRADE = 3, ACT_ROOM = 4,
            ACT_SET = 5, ACT_GAS = 6, ACT_OUTSIDE = 7, ACT_PUT = 8, ACT_DUMP = 9, ACT_BUYER = 10, ACT_ORDER = 11,
            ACT_CANCEL = 12, ACT_PAY = 13, ACT_CLOCK = 14, ACT_QUEUE = 15, ACT_WITHDRAW = 16, ACT_WAY = 17,
            ACT_DOCKS = 18, ACT_TRUCK = 19, ACT_LOAD = 20, ACT_SEND = 21, ACT_INSPECTOR = 22, ACT_ROUND = 23,
            ACT_TARIFF = 24, ACT_QUARREL = 25, ACT_SEASON = 26, ACT_PASS = 27, ACT_WIDE = 7;

    private final Hall hall = new Hall();
    private final Deeds deeds = new Deeds();
    private final Slate slate = new Slate();

    /** Copies on which is found what would be: made once, as a call may need them many times. */
    private final Hall[] spares = {new Hall(), new Hall(), new Hall()};

    /** Rows to work in, used again by each call. */
    private final int[] act = new int[ACT_WIDE];
    private final int[] several = new int[MOST_ORDERS];
    private final int[] loads = new int[1 << Carriers.MOST_PARTED];

    public MarketHall() {
    }

    // ---- 1 deliveries and gradings

    public int sort(int pace, int base, int chill, int prime, int span)
            throws IllegalArgumentException, IllegalStateException {
        inRange(pace, 1, 9);
        inRange(base, 0, 12);
        inRange(chill, 0, 12);
        inRange(prime, 100, 600);
        inRange(span, 10, 99);
        inTime(hall.of[SORTS] < MOST_SORTS);
        return deed(ACT_SORT, pace, base, chill, prime, span, 0);
    }

    public int grower(int cut, int care) throws IllegalArgumentException, IllegalStateException {
        inRange(cut, 0, 25);
        inRange(care, 0, 9);
        inTime(hall.of[GROWERS] < MOST_GROWERS);
        return deed(ACT_GROWER, cut, care, 0, 0, 0, 0);
    }

    public int deliver(int grower, int sort, int crates, int ripe, int bad)
            throws IndexOutOfBoundsException, IllegalArgumentException, IllegalStateException {
        thing(grower, hall.of[GROWERS]);
        thing(sort, hall.of[SORTS]);
        inRange(crates, 1, 40);
        inRange(ripe, 0, MOST_RIPE);
        inRange(bad, 0, crates);
        inTime(hall.of[PALLETS] < MOST_PALLETS && Stores.placesLeft(hall, FLOOR) > 0);
        return deed(ACT_DELIVER, grower, sort, crates, ripe, bad, 0);
    }

    public int grade(int pallet, int sample, int pass, int seed)
            throws IndexOutOfBoundsException, IllegalArgumentException, IllegalStateException {
        thing(pallet, hall.of[PALLETS]);
        inRange(sample, 1, 20);
        inRange(pass, 0, 9);
        inRange(seed, 0, 65535);
        inTime(hall.pallets[pallet][PALLET_STATE] == STORED && hall.pallets[pallet][PALLET_CRATES] >= sample);
        return deed(ACT_GRADE, pallet, sample, pass, seed, 0, 0);
    }

    public long odds(int crates, int bad, int sample, int pass, int what) throws IllegalArgumentException {
        inRange(crates, 1, 40);
        inRange(bad, 0, crates);
        inRange(sample, 1, Math.min(20, crates));
        inRange(pass, 0, 9);
        inRange(what, 0, 1);
        long above = Goods.waysFoundAtMost(crates, bad, sample, pass);
        long below = Goods.choose(crates, sample);
        long common = Goods.commonDivisor(above, below);
        return (what == 0 ? above : below) / common;
    }

    public int plan(int crates, int good, int poor, int what) throws IllegalArgumentException {
        inRange(crates, 1, 40);
        inRange(good, 0, crates);
        inRange(poor, 0, crates);
        inRange(what, 0, 1);
        inRange(poor, good + 1, crates);
        int best = Goods.leastPlan(crates, good, poor);
        if (best == NONE) {
            return NONE;
        }
        return what == 0 ? best / 10 : best % 10;
    }

    public int grown(int grower, int what) throws IndexOutOfBoundsException, IllegalArgumentException {
        thing(grower, hall.of[GROWERS]);
        inRange(what, 0, 8);
        return Goods.tellGrower(hall, grower, what);
    }

    // ---- 2 cold stores and ripening

    public int room(int places, int power, int leak) throws IllegalArgumentException, IllegalStateException {
        inRange(places, 1, 12);
        inRange(power, 0, 9);
        inRange(leak, 0, 9);
        inTime(hall.of[ROOMS] < MOST_ROOMS);
        return deed(ACT_ROOM, places, power, leak, 0, 0, 0);
    }

    public int set(int room, int warmth) throws IndexOutOfBoundsException, IllegalArgumentException {
        thing(room, hall.of[ROOMS]);
        inRange(warmth, 0, 40);
        return deed(ACT_SET, room, warmth, 0, 0, 0, 0);
    }

    public boolean gas(int room, boolean on) throws IndexOutOfBoundsException {
        thing(room, hall.of[ROOMS]);
        return deed(ACT_GAS, room, on ? 1 : 0, 0, 0, 0, 0) == 1;
    }

    public int outside(int day, int warmth) throws IllegalArgumentException, IllegalStateException {
        inRange(day, 0, DAYS - 1);
        inRange(warmth, 0, 40);
        inTime(day >= hall.today());
        return deed(ACT_OUTSIDE, day, warmth, 0, 0, 0, 0);
    }

    public int put(int pallet, int room) throws IndexOutOfBoundsException, IllegalStateException {
        refuse(Stores.putFault(hall, pallet, room));
        return deed(ACT_PUT, pallet, room, 0, 0, 0, 0);
    }

    public int dump(int pallet) throws IndexOutOfBoundsException, IllegalStateException {
        refuse(Stores.dumpFault(hall, pallet));
        return deed(ACT_DUMP, pallet, 0, 0, 0, 0, 0);
    }

    public int kept(int room, int what) throws IndexOutOfBoundsException, IllegalArgumentException {
        thing(room, hall.of[ROOMS]);
        inRange(what, 0, ROOM_SHUT);
        return Stores.tellRoom(hall, room, what);
    }

    public int pallet(int pallet, int what) throws IndexOutOfBoundsException, IllegalArgumentException {
        thing(pallet, hall.of[PALLETS]);
        inRange(what, 0, PALLET_FOUND);
        return Goods.tellPallet(hall, pallet, what);
    }

    public int ripe(int pallet, int room, int time) throws IndexOutOfBoundsException, IllegalArgumentException {
        thing(pallet, hall.of[PALLETS]);
        if (room != NONE) {
            thing(room, hall.of[ROOMS]);
        }
        inRange(time, hall.of[NOW], LAST_TIME);
        int stands = hall.pallets[pallet][PALLET_WHERE];
        if (stands == NONE) {
            return NONE;
        }
        int where = room == NONE ? FLOOR : room;
        return Stores.ripeAt(hall, pallet, where, where == stands ? 0 : 1, time);
    }

    public int best(int time, int what) throws IllegalArgumentException {
        int now = hall.of[NOW];
        inRange(time, now, Math.min(now + 48, LAST_TIME));
        inRange(what, 0, 3);
        Stores.bestWay(hall, time, several);
        return several[what];
    }

    // ---- 3 buyers, credit, standing orders

    public int buyer(int town, int credit, int term)
            throws IndexOutOfBoundsException, IllegalArgumentException, IllegalStateException {
        thing(town, TOWNS);
        inRange(credit, 0, 9999999);
        inRange(term, 0, 14);
        inTime(hall.of[BUYERS] < MOST_BUYERS);
        return deed(ACT_BUYER, town, credit, term, 0, 0, 0);
    }

    public int order(int buyer, int sort, int worst, int crates, int limit, int weekdays)
            throws IndexOutOfBoundsException, IllegalArgumentException, IllegalStateException {
        thing(buyer, hall.of[BUYERS]);
        thing(sort, hall.of[SORTS]);
        inRange(worst, 0, 3);
        inRange(crates, 1, 99);
        inRange(limit, 1, MOST_PRICE);
        inRange(weekdays, 1, 127);
        inTime(hall.of[ORDERS] < MOST_ORDERS);
        return deed(ACT_ORDER, buyer, sort, worst, crates, limit, weekdays);
    }

    public int cancel(int order) throws IndexOutOfBoundsException, IllegalStateException {
        refuse(Buyers.cancelFault(hall, order));
        return deed(ACT_CANCEL, order, 0, 0, 0, 0, 0);
    }

    public int pay(int buyer, int cents)
            throws IndexOutOfBoundsException, IllegalArgumentException, IllegalStateException {
        thing(buyer, hall.of[BUYERS]);
        inRange(cents, 1, 9999999);
        inTime(hall.buyers[buyer][BUYER_PURSE] <= 99999999 - cents);
        return deed(ACT_PAY, buyer, cents, 0, 0, 0, 0);
    }

    public int owes(int buyer, int what) throws IndexOutOfBoundsException, IllegalArgumentException {
        thing(buyer, hall.of[BUYERS]);
        inRange(what, 0, BUYER_ORDERS);
        return Buyers.tellBuyer(hall, buyer, what);
    }

    public int ordered(int order, int what) throws IndexOutOfBoundsException, IllegalArgumentException {
        thing(order, hall.of[ORDERS]);
        inRange(what, 0, ORDER_ASKS);
        if (what == ORDER_ASKS) {
            return Buyers.asks(hall, hall.orders[order]) ? 1 : 0;
        }
        return hall.orders[order][what];
    }

    public int taker(int pallet, int price) throws IndexOutOfBoundsException, IllegalArgumentException {
        thing(pallet, hall.of[PALLETS]);
        inRange(price, 1, MOST_PRICE);
        return Buyers.takerOf(hall, hall.pallets[pallet], price);
    }

    public int match(int what) throws IllegalArgumentException {
        if (what < 0 || what > 2) {
            inRange(what, 10, 9 + hall.of[ORDERS]);
        }
        int worth = Buyers.fill(hall, several);
        if (what == 0) {
            return worth;
        }
        if (what == 1) {
            return Buyers.cratesGiven(hall, several);
        }
        return what == 2 ? Buyers.howManyAsk(hall) : several[what - 10];
    }

    // ---- 4 clocks and lots

    public int clock(int from, int hours, int speed, int step, int rise)
            throws IllegalArgumentException, IllegalStateException {
        inRange(from, 0, 23);
        inRange(hours, 1, Math.min(6, 24 - from));
        inRange(speed, 1, 6);
        inRange(step, 1, 500);
        inRange(rise, 0, 9);
        inTime(hall.of[CLOCKS] < MOST_CLOCKS);
        return deed(ACT_CLOCK, from, hours, speed, step, rise, 0);
    }

    public int queue(int clock, int pallet, int start, int reserve)
            throws IndexOutOfBoundsException, IllegalArgumentException, IllegalStateException {
        refuse(Clocks.queueFault(hall, clock, pallet, start, reserve));
        return deed(ACT_QUEUE, clock, pallet, start, reserve, 0, 0);
    }

    public int withdraw(int pallet) throws IndexOutOfBoundsException, IllegalStateException {
        refuse(Clocks.withdrawFault(hall, pallet));
        return deed(ACT_WITHDRAW, pallet, 0, 0, 0, 0, 0);
    }

    public int hand(int clock, int what) throws IndexOutOfBoundsException, IllegalArgumentException {
        thing(clock, hall.of[CLOCKS]);
        inRange(what, 0, CLOCK_OPEN);
        if (what == CLOCK_OPEN) {
            return Clocks.isOpen(hall, clock) ? 1 : 0;
        }
        return hall.clocks[clock][what];
    }

    public int lot(int clock, int place, int what) throws IndexOutOfBoundsException, IllegalArgumentException {
        thing(clock, hall.of[CLOCKS]);
        thing(place, hall.clocks[clock][CLOCK_LOTS]);
        inRange(what, 0, LOT_RESERVE);
        return hall.lots[clock * MOST_LOTS + place][what];
    }

    public int takings(int clock, int lots, int what) throws IndexOutOfBoundsException, IllegalArgumentException {
        thing(clock, hall.of[CLOCKS]);
        inRange(lots, 1, MOST_LOTS);
        inRange(what, 0, 4);
        return Clocks.tellTakings(hall, spares[0], clock, lots, what);
    }

    public int bestRow(int clock, int place) throws IndexOutOfBoundsException, IllegalStateException {
        thing(clock, hall.of[CLOCKS]);
        int lots = hall.clocks[clock][CLOCK_LOTS];
        if (place != NONE) {
            thing(place, lots);
        }
        inTime(lots >= 1 && lots <= Clocks.MOST_IN_BEST_ROW);
        int takings = Clocks.bestRowOf(hall, spares[0], clock, several);
        return place == NONE ? takings : several[place];
    }

    public int bestStart(int clock, int pallet, int reserve, int what)
            throws IndexOutOfBoundsException, IllegalArgumentException, IllegalStateException {
        thing(clock, hall.of[CLOCKS]);
        thing(pallet, hall.of[PALLETS]);
        inRange(reserve, 1, MOST_PRICE);
        inRange(what, 0, 1);
        inTime(hall.pallets[pallet][PALLET_CRATES] > 0);
        int takings = Clocks.bestStartOf(hall, spares[0], clock, pallet, reserve, several);
        return what == 0 ? several[0] : takings;
    }

    // ---- 5 carriers and docks

    public int way(int a, int b, int hours) throws IndexOutOfBoundsException, IllegalArgumentException {
        thing(a, THE_HALL + 1);
        thing(b, THE_HALL + 1);
        if (a == b) {
            refuse(OUT_OF_RANGE);
        }
        inRange(hours, 1, 12);
        return deed(ACT_WAY, a, b, hours, 0, 0, 0);
    }

    public int docks(int n) throws IllegalArgumentException, IllegalStateException {
        inRange(n, 1, 4);
        inTime(Carriers.atDocks(hall) <= n);
        return deed(ACT_DOCKS, n, 0, 0, 0, 0, 0);
    }

    public int truck(int space, int warmth) throws IllegalArgumentException, IllegalStateException {
        inRange(space, 10, 99);
        inRange(warmth, 0, 40);
        inTime(hall.of[TRUCKS] < MOST_TRUCKS);
        return deed(ACT_TRUCK, space, warmth, 0, 0, 0, 0);
    }

    public int load(int parcel, int truck) throws IndexOutOfBoundsException, IllegalStateException {
        refuse(Carriers.loadFault(hall, parcel, truck));
        return deed(ACT_LOAD, parcel, truck, 0, 0, 0, 0);
    }

    public int send(int truck, int time)
            throws IndexOutOfBoundsException, IllegalArgumentException, IllegalStateException {
        refuse(Carriers.sendFault(hall, truck, time));
        return deed(ACT_SEND, truck, time, 0, 0, 0, 0);
    }

    public int haul(int truck, int what) throws IndexOutOfBoundsException, IllegalArgumentException {
        thing(truck, hall.of[TRUCKS]);
        inRange(what, 0, TRUCK_TIMES);
        return Carriers.tellTruck(hall, truck, what);
    }

    public int parcel(int parcel, int what) throws IndexOutOfBoundsException, IllegalArgumentException {
        thing(parcel, hall.of[PARCELS]);
        inRange(what, 0, PARCEL_PAYDAY);
        return Buyers.tellParcel(hall, hall.parcels[parcel], what);
    }

    public int trip(int truck, int place) throws IndexOutOfBoundsException, IllegalArgumentException {
        thing(truck, hall.of[TRUCKS]);
        inRange(place, 0, TOWNS - 1);
        if (hall.trucks[truck][TRUCK_OUT] == 1) {
            return hall.trucks[truck][TRUCK_TRIP + place];
        }
        Carriers.shortestTrip(hall, Carriers.townsOf(hall, truck), several);
        return several[place];
    }

    public int fewest(int space, int town)
            throws IndexOutOfBoundsException, IllegalArgumentException, IllegalStateException {
        thing(town, THE_HALL + 1);
        inRange(space, 10, 99);
        int parted = Carriers.partedFor(hall, town, several);
        inTime(parted <= Carriers.MOST_PARTED && Carriers.greatest(several, parted) <= space);
        return Carriers.fewestLoads(several, parted, space, loads);
    }

    // ---- 6 rounds

    public int inspector(int hour, int strict) throws IllegalArgumentException, IllegalStateException {
        inRange(hour, 0, 18);
        inRange(strict, 0, 3);
        inTime(hall.of[INSPECTORS] < MOST_INSPECTORS);
        return deed(ACT_INSPECTOR, hour, strict, 0, 0, 0, 0);
    }

    public int round(int inspector, int weekdays, int stops)
            throws IndexOutOfBoundsException, IllegalArgumentException {
        thing(inspector, hall.of[INSPECTORS]);
        inRange(weekdays, 0, 127);
        if (!Rounds.areStops(hall, stops)) {
            refuse(OUT_OF_RANGE);
        }
        return deed(ACT_ROUND, inspector, weekdays, stops, 0, 0, 0);
    }

    public int looked(int inspector, int what) throws IndexOutOfBoundsException, IllegalArgumentException {
        thing(inspector, hall.of[INSPECTORS]);
        inRange(what, 0, INSPECTOR_NEXT_STOP);
        return Rounds.tellInspector(hall, hall.inspectors[inspector], what);
    }

    public int found(int back, int what) throws IndexOutOfBoundsException, IllegalArgumentException {
        thing(back, Math.min(hall.of[FINDINGS], KEPT_FINDINGS));
        inRange(what, 0, FINDING_GRADE);
        return Rounds.findingBack(hall, back)[what];
    }

    public int worst(int inspector, int what) throws IndexOutOfBoundsException, IllegalArgumentException {
        thing(inspector, hall.of[INSPECTORS]);
        inRange(what, 0, 1);
        Rounds.search(hall, inspector, spares, several);
        return several[what];
    }

    // ---- 7 books and quarrels

    public int tariff(int which, int cents) throws IllegalArgumentException {
        inRange(which, 0, 3);
        inRange(cents, 0, 99999);
        return deed(ACT_TARIFF, which, cents, 0, 0, 0, 0);
    }

    public int account(int account) throws IllegalArgumentException {
        inRange(account, 0, Books.RESULT);
        return hall.accounts[account];
    }

    public int entry(int back, int what) throws IndexOutOfBoundsException, IllegalArgumentException {
        thing(back, Math.min(hall.of[ENTRIES], KEPT_ENTRIES));
        inRange(what, 0, ENTRY_TIME);
        return hall.entries[(hall.of[ENTRIES] - 1 - back) % KEPT_ENTRIES][what];
    }

    public int owed(int grower, int what) throws IndexOutOfBoundsException, IllegalArgumentException {
        thing(grower, hall.of[GROWERS]);
        inRange(what, 0, 4);
        return hall.growers[grower][GROWER_DUE + what];
    }

    public int quarrel(int parcel, int cause)
            throws IndexOutOfBoundsException, IllegalArgumentException, IllegalStateException {
        thing(parcel, hall.of[PARCELS]);
        inRange(cause, 0, 3);
        inTime(Books.canQuarrel(hall, parcel));
        return deed(ACT_QUARREL, parcel, cause, 0, 0, 0, 0);
    }

    public int quarrelled(int quarrel, int what) throws IndexOutOfBoundsException, IllegalArgumentException {
        thing(quarrel, hall.of[QUARRELS]);
        inRange(what, 0, QUARREL_TIME);
        return hall.quarrels[quarrel][what];
    }

    public int blame(int parcel, int cause, int who)
            throws IndexOutOfBoundsException, IllegalArgumentException, IllegalStateException {
        thing(parcel, hall.of[PARCELS]);
        inRange(cause, 0, 3);
        inRange(who, 0, 3);
        inTime(hall.parcels[parcel][PARCEL_STATE] == COME);
        int award = Books.award(hall, hall.parcels[parcel], cause);
        if (who == 3) {
            return award;
        }
        Books.shareAward(hall, hall.parcels[parcel], cause, award, several);
        return several[who];
    }

    public int shares(int cents, int first, int second, int third, int who) throws IllegalArgumentException {
        inRange(cents, 0, 999999);
        inRange(first, 0, 999);
        inRange(second, 0, 999);
        inRange(third, 0, 999);
        inRange(who, 0, 2);
        inRange(first + second + third, 1, 3 * 999);
        Books.share(cents, first, second, third, several);
        return several[who];
    }

    // ---- 8 slate, season, undo, images

    public int sign(int code) throws IllegalArgumentException, IllegalStateException {
        inRange(code, 32, 126);
        inTime(slate.length < MOST_SIGNS);
        return slate.write(code);
    }

    public int tasks() {
        int answer = slate.fault(act);
        if (answer == FITS) {
            answer = doTasks();
        }
        slate.length = 0;
        return answer;
    }

    public int season(int seed, int size) throws IllegalArgumentException, IllegalStateException {
        inRange(seed, 0, 65535);
        inRange(size, 1, 12);
        inTime(hall.of[DEEDS] == 0);
        return deed(ACT_SEASON, seed, size, 0, 0, 0, 0);
    }

    public int pass(int hours) throws IllegalArgumentException, IllegalStateException {
        inRange(hours, 1, 72);
        inTime(hall.of[NOW] + hours <= LAST_TIME);
        return deed(ACT_PASS, hours, 0, 0, 0, 0, 0);
    }

    public int undo() throws IllegalStateException {
        inTime(deeds.undoable > 0);
        return deeds.takeBack(hall);
    }

    public int keep(int slot) throws IllegalArgumentException {
        inRange(slot, 0, SLOTS - 1);
        deeds.keepImage(hall, slot);
        return hall.of[DEEDS];
    }

    public int again(int slot) throws IllegalArgumentException, IllegalStateException {
        inRange(slot, 0, SLOTS - 1);
        inTime(deeds.isKept[slot]);
        deeds.goOnFrom(hall, slot);
        return hall.of[DEEDS];
    }

    public boolean isSound(int part) throws IllegalArgumentException {
        inRange(part, 0, 8);
        boolean sound = true;
        for (int one = 1; one <= 8 && sound; one++) {
            if (part != 0 && part != one) {
                continue;
            }
            switch (one) {
                case 1: sound = Goods.areSound(hall); break;
                case 2: sound = Stores.areSound(hall); break;
                case 3: sound = Buyers.areSound(hall); break;
                case 4: sound = Clocks.areSound(hall, spares[0], several); break;
                case 5: sound = Carriers.areSound(hall); break;
                case 6: sound = Rounds.areSound(hall); break;
                case 7: sound = Books.areSound(hall); break;
                default: sound = Goods.haveNoLeftovers(hall) && deeds.leadTo(hall, spares[0]); break;
            }
        }
        return sound;
    }

    public int sum(int what) throws IllegalArgumentException {
        inRange(what, 0, 23);
        switch (what) {
            case 21: return hall.of[DEEDS];
            case 22: return deeds.undoable;
            case 23: return slate.length;
            default: return hall.tellSum(what);
        }
    }

    // ---- what the calls share

    /** Checks that a call names a thing that there is. */
    private static void thing(int number, int howMany) {
        if (number < 0 || number >= howMany) {
            refuse(NO_THING);
        }
    }

    private static void inRange(int number, int least, int most) {
        if (number < least || number > most) {
            refuse(OUT_OF_RANGE);
        }
    }

    private static void inTime(boolean can) {
        if (!can) {
            refuse(NOT_NOW);
        }
    }

    private static void refuse(int fault) {
        if (fault == NO_THING) {
            throw new IndexOutOfBoundsException("there is no such thing");
        }
        if (fault == OUT_OF_RANGE) {
            throw new IllegalArgumentException("an argument is out of its range");
        }
        if (fault == NOT_NOW) {
            throw new IllegalStateException("that can not be as things stand");
        }
    }

    /** Does a DEED that nothing refuses, and puts it into the RECORD. */
    private int deed(int kind, int a, int b, int c, int d, int e, int f) {
        act[0] = kind;
        act[1] = a;
        act[2] = b;
        act[3] = c;
        act[4] = d;
        act[5] = e;
        act[6] = f;
        deeds.begin(hall);
        deeds.record(hall, act);
        return hall.perform(act);
    }

    /** Does the TASKS of THE SLATE up to the first one that is refused; together they are one DEED. */
    private int doTasks() {
        int done = 0;
        int at = 0;
        while (at >= 0 && at < slate.length && done < MOST_SIGNS) {
            at = slate.readTask(at, act);
            if (hall.taskFault(act) != FITS) {
                return done;
            }
            if (done == 0) {
                deeds.begin(hall);
            }
            deeds.record(hall, act);
            hall.perform(act);
            done++;
        }
        return done;
    }

    /**
     * All that is, but for THE SLATE and the images, as rows of numbers: so it is copied, compared and gone
     * back to as a whole, and what would be is found on another one.
     */
    private static final class Hall {
        final int[] of = new int[NUMBERS];
        final int[] outside = new int[DAYS];
        final int[] tariffs = {50, 120, 400, 2500};
        final int[] accounts = new int[Books.RESULT + 1];
        final int[][] ways = new int[THE_HALL + 1][THE_HALL + 1];
        final int[][] sorts = new int[MOST_SORTS][SORT_WIDE];
        final int[][] growers = new int[MOST_GROWERS][GROWER_WIDE];
        final int[][] rooms = new int[MOST_ROOMS][ROOM_WIDE];
        final int[][] pallets = new int[MOST_PALLETS][PALLET_WIDE];
        final int[][] buyers = new int[MOST_BUYERS][BUYER_WIDE];
        final int[][] orders = new int[MOST_ORDERS][ORDER_WIDE];
        final int[][] parcels = new int[MOST_PARCELS][PARCEL_WIDE];
        final int[][] clocks = new int[MOST_CLOCKS][CLOCK_WIDE];
        final int[][] lots = new int[MOST_CLOCKS * MOST_LOTS][LOT_WIDE];
        final int[][] trucks = new int[MOST_TRUCKS][TRUCK_WIDE];
        final int[][] inspectors = new int[MOST_INSPECTORS][INSPECTOR_WIDE];
        final int[][] findings = new int[KEPT_FINDINGS][FINDING_WIDE];
        final int[][] entries = new int[KEPT_ENTRIES][ENTRY_WIDE];
        final int[][] quarrels = new int[MOST_QUARRELS][QUARREL_WIDE];

        Hall() {
            of[DOCKS] = 2;
            of[LATEST_ACT] = NONE;
            for (int day = 0; day < DAYS; day++) {
                outside[day] = 18;
            }
            for (int a = 0; a <= THE_HALL; a++) {
                for (int b = 0; b <= THE_HALL; b++) {
                    ways[a][b] = a == b ? 0 : 3;
                }
            }
        }

        void copy(Hall from) {
            copyRow(from.of, of);
            copyRow(from.outside, outside);
            copyRow(from.tariffs, tariffs);
            copyRow(from.accounts, accounts);
            copyRows(from.ways, ways);
            copyRows(from.sorts, sorts);
            copyRows(from.growers, growers);
            copyRows(from.rooms, rooms);
            copyRows(from.pallets, pallets);
            copyRows(from.buyers, buyers);
            copyRows(from.orders, orders);
            copyRows(from.parcels, parcels);
            copyRows(from.clocks, clocks);
            copyRows(from.lots, lots);
            copyRows(from.trucks, trucks);
            copyRows(from.inspectors, inspectors);
            copyRows(from.findings, findings);
            copyRows(from.entries, entries);
            copyRows(from.quarrels, quarrels);
        }

        private static void copyRows(int[][] from, int[][] to) {
            for (int n = 0; n < from.length && n < to.length; n++) {
                copyRow(from[n], to[n]);
            }
        }

        private static void copyRow(int[] from, int[] to) {
            System.arraycopy(from, 0, to, 0, Math.min(from.length, to.length));
        }

        /** Whether another one is the same season, by whatever DEEDS each came about. */
        boolean isLike(Hall other) {
            return likeRow(of, other.of, NUMBERS_OF_THE_SEASON)
                    && likeRow(outside, other.outside, DAYS)
                    && likeRow(tariffs, other.tariffs, tariffs.length)
                    && likeRow(accounts, other.accounts, accounts.length)
                    && likeRows(ways, other.ways)
                    && likeRows(sorts, other.sorts)
                    && likeRows(growers, other.growers)
                    && likeRows(rooms, other.rooms)
                    && likeRows(pallets, other.pallets)
                    && likeRows(buyers, other.buyers)
                    && likeRows(orders, other.orders)
                    && likeRows(parcels, other.parcels)
                    && likeRows(clocks, other.clocks)
                    && likeRows(lots, other.lots)
                    && likeRows(trucks, other.trucks)
                    && likeRows(inspectors, other.inspectors)
                    && likeRows(findings, other.findings)
                    && likeRows(entries, other.entries)
                    && likeRows(quarrels, other.quarrels);
        }

        private static boolean likeRows(int[][] a, int[][] b) {
            boolean like = a.length == b.length;
            for (int n = 0; n < a.length && like; n++) {
                like = likeRow(a[n], b[n], a[n].length);
            }
            return like;
        }

        private static boolean likeRow(int[] a, int[] b, int wide) {
            boolean like = a.length >= wide && b.length >= wide;
            for (int n = 0; n < wide && like; n++) {
                like = a[n] == b[n];
            }
            return like;
        }

        int today() {
            return of[NOW] / 24;
        }

        /** Whether the WEEKDAY of TODAY is in a set of WEEKDAYS. */
        boolean isToday(int weekdays) {
            return (weekdays >> of[NOW] / 24 % 7 & 1) == 1;
        }

        /** Why the call that a TASK stands for would be refused; FITS, if it would not. */
        int taskFault(int[] a) {
            switch (a[0]) {
                case ACT_PUT: return Stores.putFault(this, a[1], a[2]);
                case ACT_DUMP: return Stores.dumpFault(this, a[1]);
                case ACT_CANCEL: return Buyers.cancelFault(this, a[1]);
                case ACT_QUEUE: return Clocks.queueFault(this, a[1], a[2], a[3], a[4]);
                case ACT_WITHDRAW: return Clocks.withdrawFault(this, a[1]);
                case ACT_LOAD: return Carriers.loadFault(this, a[1], a[2]);
                case ACT_SEND: return Carriers.sendFault(this, a[1], a[2]);
                default: return NOT_NOW;
            }
        }

        /** Does an act that nothing refuses; its answer is that of its call. */
        int perform(int[] a) {
            switch (a[0]) {
                case ACT_SORT: return Goods.addSort(this, a[1], a[2], a[3], a[4], a[5]);
                case ACT_GROWER: return Goods.addGrower(this, a[1], a[2]);
                case ACT_DELIVER: return Goods.addPallet(this, a[1], a[2], a[3], a[4], a[5]);
                case ACT_GRADE: return Goods.gradePallet(this, a[1], a[2], a[3], a[4]);
                case ACT_ROOM: return Stores.addRoom(this, a[1], a[2], a[3]);
                case ACT_SET: return swap(rooms[a[1]], ROOM_SET, a[2]);
                case ACT_GAS: return swap(rooms[a[1]], ROOM_GAS, a[2]);
                case ACT_OUTSIDE: return swap(outside, a[1], a[2]);
                case ACT_PUT: return Stores.putPallet(this, a[1], a[2]);
                case ACT_DUMP: return Goods.takeAway(this, a[1], DUMPED);
                case ACT_BUYER: return Buyers.addBuyer(this, a[1], a[2], a[3]);
                case ACT_ORDER: return Buyers.addOrder(this, a[1], a[2], a[3], a[4], a[5], a[6]);
                case ACT_CANCEL: return Buyers.cancelOrder(this, a[1]);
                case ACT_PAY: return Buyers.payIn(this, a[1], a[2]);
                case ACT_CLOCK: return Clocks.addClock(this, a[1], a[2], a[3], a[4], a[5]);
                case ACT_QUEUE: return Clocks.queuePallet(this, a[1], a[2], a[3], a[4]);
                case ACT_WITHDRAW: return Clocks.takeOut(this, a[1]);
                case ACT_WAY: return Carriers.changeWay(this, a[1], a[2], a[3]);
                case ACT_DOCKS: return swap(of, DOCKS, a[1]);
                case ACT_TRUCK: return Carriers.addTruck(this, a[1], a[2]);
                case ACT_LOAD: return Carriers.loadParcel(this, a[1], a[2]);
                case ACT_SEND: return swap(trucks[a[1]], TRUCK_GO, a[2]);
                case ACT_INSPECTOR: return Rounds.addInspector(this, a[1], a[2]);
                case ACT_ROUND: return Rounds.changeRound(this, a[1], a[2], a[3]);
                case ACT_TARIFF: return swap(tariffs, a[1], a[2]);
                case ACT_QUARREL: return Books.addQuarrel(this, a[1], a[2]);
                case ACT_SEASON: return new Season(this, a[1], a[2]).tellAll();
                default: return letHours(a[1]);
            }
        }

        /** Puts another number in the place of one, which it answers. */
        private static int swap(int[] row, int at, int number) {
            int was = row[at];
            row[at] = number;
            return was;
        }

        /** Lets HOURS go by, each with its steps in their order. */
        private int letHours(int hours) {
            for (int hour = 0; hour < hours; hour++) {
                of[NOW]++;
                Carriers.arrive(this);
                Stores.growOlder(this);
                for (int n = 0; n < of[INSPECTORS]; n++) {
                    int stop = Rounds.stopAt(inspectors[n], of[NOW]);
                    if (stop != NONE) {
                        Rounds.look(this, n, stop);
                    }
                }
                for (int n = 0; n < of[CLOCKS]; n++) {
                    int due = Clocks.lotsDue(this, n);
                    for (int lot = 0; lot < due; lot++) {
                        Clocks.sellFirst(this, n);
                    }
                }
                for (int n = 0; n < of[TRUCKS]; n++) {
                    Carriers.goIfDue(this, n);
                }
                if (of[NOW] % 24 == 0) {
                    Buyers.closeDay(this);
                    Books.closeDay(this);
                }
            }
            return of[NOW];
        }

        int tellSum(int what) {
            if (what >= 5 && what <= 9) {
                return howMany(pallets, PALLETS, PALLET_STATE, what - 5);
            }
            if (what >= 13 && what <= 16) {
                return howMany(parcels, PARCELS, PARCEL_STATE, what - 13);
            }
            switch (what) {
                case 0: return of[NOW];
                case 1: return of[SORTS];
                case 2: return of[GROWERS];
                case 3: return of[ROOMS];
                case 4: return of[PALLETS];
                case 10: return of[BUYERS];
                case 11: return of[ORDERS];
                case 12: return of[PARCELS];
                case 17: return of[CLOCKS];
                case 18: return of[TRUCKS];
                case 19: return of[INSPECTORS];
                default: return of[QUARRELS];
            }
        }

        /** How many rows of a table have a number in a column. */
        private int howMany(int[][] table, int things, int column, int number) {
            int many = 0;
            for (int n = 0; n < of[things]; n++) {
                if (table[n][column] == number) {
                    many++;
                }
            }
            return many;
        }
    }

    /** Part 1: SORTS, GROWERS, PALLETS and GRADINGS. */
    private static final class Goods {

        static int addSort(Hall h, int pace, int base, int chill, int prime, int span) {
            int[] sort = h.sorts[h.of[SORTS]];
            sort[SORT_PACE] = pace;
            sort[SORT_BASE] = base;
            sort[SORT_CHILL] = chill;
            sort[SORT_PRIME] = prime;
            sort[SORT_SPAN] = span;
            return h.of[SORTS]++;
        }

        static int addGrower(Hall h, int cut, int care) {
            int[] grower = h.growers[h.of[GROWERS]];
            grower[GROWER_CUT] = cut;
            grower[GROWER_CARE] = care;
            return h.of[GROWERS]++;
        }

        static int addPallet(Hall h, int grower, int sort, int crates, int ripe, int bad) {
            int[] pallet = h.pallets[h.of[PALLETS]];
            pallet[PALLET_GROWER] = grower;
            pallet[PALLET_SORT] = sort;
            pallet[PALLET_CAME] = h.of[NOW];
            pallet[PALLET_BROUGHT] = crates;
            pallet[PALLET_CRATES] = crates;
            pallet[PALLET_BAD] = bad;
            pallet[PALLET_RIPE] = ripe;
            pallet[PALLET_GRADE] = NONE;
            pallet[PALLET_STATE] = STORED;
            pallet[PALLET_WHERE] = FLOOR;
            pallet[PALLET_FOUND] = NONE;
            return h.of[PALLETS]++;
        }

        static int stage(Hall h, int sort, int ripe) {
            int prime = h.sorts[sort][SORT_PRIME];
            int span = h.sorts[sort][SORT_SPAN];
            if (ripe < prime - span) {
                return GREEN;
            }
            if (ripe <= prime + span) {
                return FINE;
            }
            return ripe <= prime + 3 * span ? SOFT : ROTTEN;
        }

        /** The LEAST of a PALLET: no GRADING makes its GRADE better than that. */
        static int least(Hall h, int[] pallet) {
            int stage = stage(h, pallet[PALLET_SORT], pallet[PALLET_RIPE]);
            return stage == GREEN || stage == FINE ? 0 : stage;
        }

        /** The next x of the DRAWS; a DRAW of n is x / 16 % n. */
        static int nextSeed(int x) {
            return (25173 * x + 13849) % 65536;
        }

        static int gradePallet(Hall h, int number, int sample, int pass, int seed) {
            int[] pallet = h.pallets[number];
            int left = pallet[PALLET_CRATES];
            int bad = pallet[PALLET_BAD];
            int found = 0;
            int x = seed;
            for (int drawn = 0; drawn < sample && left > 0; drawn++) {
                x = nextSeed(x);
                if (x / 16 % left < bad) {
                    found++;
                    bad--;
                }
                left--;
            }
            pallet[PALLET_GRADE] = Math.max(gradeBy(found, pass), least(h, pallet));
            pallet[PALLET_GRADED]++;
            pallet[PALLET_FOUND] = found;
            Books.enter(h, Books.CASH, Books.SAMPLES, sample * h.tariffs[Books.A_SAMPLE], number);
            return pallet[PALLET_GRADE];
        }

        private static int gradeBy(int found, int pass) {
            if (found == 0) {
                return 0;
            }
            if (found <= pass) {
                return 1;
            }
            return found <= 2 * pass + 1 ? 2 : 3;
        }

        static boolean isThere(int[] pallet) {
            return pallet[PALLET_STATE] == STORED || pallet[PALLET_STATE] == QUEUED;
        }

        static int waitingOf(Hall h, int number) {
            int waiting = 0;
            for (int n = 0; n < h.of[PARCELS]; n++) {
                if (h.parcels[n][PARCEL_PALLET] == number && h.parcels[n][PARCEL_STATE] == WAITING) {
                    waiting++;
                }
            }
            return waiting;
        }

        /** CRATES of all PARCELS of a PALLET, whatever became of them. */
        private static int soldOf(Hall h, int number) {
            int sold = 0;
            for (int n = 0; n < h.of[PARCELS]; n++) {
                if (h.parcels[n][PARCEL_PALLET] == number) {
                    sold += h.parcels[n][PARCEL_CRATES];
                }
            }
            return sold;
        }

        /** A PALLET is SEIZED or DUMPED, and its WAITING PARCELS are LOST; answers by how much SPOILT is more. */
        static int takeAway(Hall h, int number, int state) {
            int[] pallet = h.pallets[number];
            if (pallet[PALLET_STATE] == QUEUED) {
                Clocks.takeOut(h, number);
            }
            int spoilt = pallet[PALLET_CRATES];
            pallet[PALLET_SPOILT] += spoilt;
            pallet[PALLET_CRATES] = 0;
            pallet[PALLET_BAD] = 0;
            pallet[PALLET_STATE] = state;
            Stores.move(h, pallet, NONE);
            for (int n = 0; n < h.of[PARCELS]; n++) {
                int[] parcel = h.parcels[n];
                if (parcel[PARCEL_PALLET] == number && parcel[PARCEL_STATE] == WAITING) {
                    parcel[PARCEL_STATE] = LOST;
                    parcel[PARCEL_RIPE] = pallet[PALLET_RIPE];
                    parcel[PARCEL_HARM] = pallet[PALLET_HARM];
                    parcel[PARCEL_DONE] = h.of[NOW];
                    Buyers.enterLost(h, parcel);
                    Books.enter(h, Books.BUYERS_OWE, Books.LOSSES, parcel[PARCEL_GROSS], number);
                }
            }
            return spoilt;
        }

        /** A PALLET that stays STORED without CRATES and without WAITING PARCELS is CLEARED. */
        static void clearIfDone(Hall h, int number) {
            int[] pallet = h.pallets[number];
            if (pallet[PALLET_STATE] == STORED && pallet[PALLET_CRATES] == 0 && waitingOf(h, number) == 0) {
                pallet[PALLET_STATE] = CLEARED;
                Stores.move(h, pallet, NONE);
            }
        }

        static int tellPallet(Hall h, int number, int what) {
            int[] pallet = h.pallets[number];
            if (what == PALLET_STAGE) {
                return stage(h, pallet[PALLET_SORT], pallet[PALLET_RIPE]);
            }
            return what == PALLET_WAITING ? waitingOf(h, number) : pallet[what];
        }

        static int tellGrower(Hall h, int number, int what) {
            if (what <= 1) {
                return h.growers[number][what];
            }
            int told = 0;
            for (int n = 0; n < h.of[PALLETS]; n++) {
                if (h.pallets[n][PALLET_GROWER] == number) {
                    told += tellForGrower(h, n, what);
                }
            }
            return told;
        }

        /** What one PALLET adds to a number of its GROWER. */
        private static int tellForGrower(Hall h, int number, int what) {
            int[] pallet = h.pallets[number];
            switch (what) {
                case 2: return 1;
                case 3: return pallet[PALLET_BROUGHT];
                case 4: return soldOf(h, number);
                case 5: return pallet[PALLET_SPOILT];
                case 6: return isThere(pallet) ? 1 : 0;
                case 7: return isThere(pallet) && pallet[PALLET_GRADE] == NONE ? 1 : 0;
                default: return pallet[PALLET_CRATES];
            }
        }

        /** In how many ways so many of n things can be drawn; 0, if there are not so many. */
        static long choose(int n, int drawn) {
            if (drawn > n) {
                return 0;
            }
            long many = 1;
            for (int k = 1; k <= drawn; k++) {
                many = many * (n - drawn + k) / k;
            }
            return many;
        }

        /** In how many ways a SAMPLE can be drawn so that FOUND is PASS at most. */
        static long waysFoundAtMost(int crates, int bad, int sample, int pass) {
            long many = 0;
            for (int found = 0; found <= pass && found <= sample; found++) {
                many += choose(bad, found) * choose(crates - bad, sample - found);
            }
            return many;
        }

        /** Some 70 steps are the most for numbers below 2 to the power of 38. */
        static long commonDivisor(long a, long b) {
            long one = a;
            long other = b;
            for (int turn = 0; turn < 100 && other != 0; turn++) {
                long rest = one % other;
                one = other;
                other = rest;
            }
            return Math.max(one, 1);
        }

        /** 10 times the SAMPLE, and the PASS, together, of the least plan; NONE, if there is none. */
        static int leastPlan(int crates, int good, int poor) {
            for (int sample = 1; sample <= 20 && sample <= crates; sample++) {
                long all = choose(crates, sample);
                for (int pass = 0; pass <= 9; pass++) {
                    if (10 * waysFoundAtMost(crates, good, sample, pass) >= 9 * all
                            && 10 * waysFoundAtMost(crates, poor, sample, pass) <= all) {
                        return 10 * sample + pass;
                    }
                }
            }
            return NONE;
        }

        static boolean areSound(Hall h) {
            boolean sound = Stores.standing(h, FLOOR) <= FLOOR_PLACES;
            for (int n = 0; n < h.of[PALLETS] && sound; n++) {
                int[] pallet = h.pallets[n];
                sound = isInRanges(pallet) && (isThere(pallet) || pallet[PALLET_CRATES] == 0)
                        && pallet[PALLET_BROUGHT] == pallet[PALLET_CRATES] + pallet[PALLET_SPOILT] + soldOf(h, n);
            }
            for (int n = 0; n < h.of[GROWERS] && sound; n++) {
                sound = tellGrower(h, n, 3) == tellGrower(h, n, 4) + tellGrower(h, n, 5) + tellGrower(h, n, 8);
            }
            return sound;
        }

        private static boolean isInRanges(int[] pallet) {
            return isFrom(pallet[PALLET_BROUGHT], 1, 40)
                    && isFrom(pallet[PALLET_CRATES], 0, 40)
                    && isFrom(pallet[PALLET_BAD], 0, pallet[PALLET_CRATES])
                    && isFrom(pallet[PALLET_RIPE], 0, MOST_RIPE)
                    && isFrom(pallet[PALLET_HARM], 0, MOST_HARM)
                    && isFrom(pallet[PALLET_GRADE], NONE, 3)
                    && isFrom(pallet[PALLET_STATE], STORED, DUMPED);
        }

        static boolean isFrom(int number, int least, int most) {
            return number >= least && number <= most;
        }

        /** Whether each WAITING PARCEL has a PALLET that is THERE, and each STORED PALLET has something left. */
        static boolean haveNoLeftovers(Hall h) {
            boolean sound = true;
            for (int n = 0; n < h.of[PARCELS] && sound; n++) {
                int[] parcel = h.parcels[n];
                sound = parcel[PARCEL_STATE] != WAITING || isThere(h.pallets[parcel[PARCEL_PALLET]]);
            }
            for (int n = 0; n < h.of[PALLETS] && sound; n++) {
                int[] pallet = h.pallets[n];
                sound = pallet[PALLET_STATE] != STORED || pallet[PALLET_CRATES] > 0 || waitingOf(h, n) > 0;
            }
            return sound;
        }
    }

    /** Part 2: ROOMS, THE FLOOR, and how PALLETS and PARCELS ripen there. */
    private static final class Stores {

        static int addRoom(Hall h, int places, int power, int leak) {
            int[] room = h.rooms[h.of[ROOMS]];
            room[ROOM_PLACES] = places;
            room[ROOM_POWER] = power;
            room[ROOM_LEAK] = leak;
            room[ROOM_SET] = 18;
            room[ROOM_WARMTH] = h.outside[h.today()];
            room[ROOM_SHUT] = NONE;
            return h.of[ROOMS]++;
        }

        /** How many PALLETS stand in a ROOM, or on THE FLOOR. */
        static int standing(Hall h, int where) {
            int many = 0;
            for (int n = 0; n < h.of[PALLETS]; n++) {
                if (h.pallets[n][PALLET_WHERE] == where) {
                    many++;
                }
            }
            return many;
        }

        static int placesLeft(Hall h, int where) {
            int places = where == FLOOR ? FLOOR_PLACES : h.rooms[where][ROOM_PLACES];
            return places - standing(h, where);
        }

        static boolean isShut(Hall h, int where) {
            return where >= 0 && where < h.of[ROOMS] && h.of[NOW] < h.rooms[where][ROOM_SHUT];
        }

        static int putFault(Hall h, int number, int room) {
            if (number < 0 || number >= h.of[PALLETS] || room < NONE || room >= h.of[ROOMS]) {
                return NO_THING;
            }
            int[] pallet = h.pallets[number];
            int where = room == NONE ? FLOOR : room;
            boolean can = Goods.isThere(pallet) && pallet[PALLET_WHERE] != where
                    && !isShut(h, pallet[PALLET_WHERE]) && !isShut(h, where) && placesLeft(h, where) > 0;
            return can ? FITS : NOT_NOW;
        }

        static int putPallet(Hall h, int number, int room) {
            int where = room == NONE ? FLOOR : room;
            move(h, h.pallets[number], where);
            return placesLeft(h, where);
        }

        static int dumpFault(Hall h, int number) {
            if (number < 0 || number >= h.of[PALLETS]) {
                return NO_THING;
            }
            return Goods.isThere(h.pallets[number]) ? FITS : NOT_NOW;
        }

        /** Lets a PALLET stand elsewhere, or nowhere (NONE): its DOORS let warmth through. */
        static void move(Hall h, int[] pallet, int where) {
            int from = pallet[PALLET_WHERE];
            if (from >= 0 && from < FLOOR) {
                h.rooms[from][ROOM_DOORS]++;
            }
            if (where >= 0 && where < FLOOR) {
                h.rooms[where][ROOM_DOORS]++;
            }
            pallet[PALLET_WHERE] = where;
        }

        static int tellRoom(Hall h, int number, int what) {
            int[] room = h.rooms[number];
            if (what == ROOM_STANDING) {
                return standing(h, number);
            }
            if (what == ROOM_SHUT) {
                return isShut(h, number) ? room[ROOM_SHUT] : NONE;
            }
            return room[what];
        }

        private static int towards(int from, int to, int degrees) {
            int up = from + degrees;
            int down = from - degrees;
            if (from < to) {
                return up < to ? up : to;
            }
            return down > to ? down : to;
        }

        /** How warm it is in a ROOM behind its LEAK and its DOORS, ahead of its POWER. */
        private static int leaked(int[] room, int warmth, int doors, int outside) {
            return towards(warmth, outside, room[ROOM_LEAK] + doors);
        }

        private static int powered(int[] room, int warmth) {
            return towards(warmth, room[ROOM_SET], room[ROOM_POWER]);
        }

        private static int riper(int[] sort, int ripe, int warmth, boolean gas) {
            int heat = Math.max(0, warmth - sort[SORT_BASE]);
            int more = sort[SORT_PACE] * heat / 8;
            return Math.min(MOST_RIPE, ripe + (gas ? 2 * more : more));
        }

        private static int harmed(int[] sort, int harm, int warmth) {
            return warmth < sort[SORT_CHILL] ? Math.min(MOST_HARM, harm + 1) : harm;
        }

        /** Step 3 of an HOUR. */
        static void growOlder(Hall h) {
            int outside = h.outside[h.today()];
            for (int n = 0; n < h.of[ROOMS]; n++) {
                findWarmth(h.rooms[n], outside);
            }
            for (int n = 0; n < h.of[PALLETS]; n++) {
                int[] pallet = h.pallets[n];
                int where = pallet[PALLET_WHERE];
                if (where != NONE) {
                    int[] sort = h.sorts[pallet[PALLET_SORT]];
                    int warmth = where == FLOOR ? outside : h.rooms[where][ROOM_WARMTH];
                    boolean gas = where != FLOOR && h.rooms[where][ROOM_GAS] == 1;
                    pallet[PALLET_RIPE] = riper(sort, pallet[PALLET_RIPE], warmth, gas);
                    pallet[PALLET_HARM] = harmed(sort, pallet[PALLET_HARM], warmth);
                }
            }
            for (int n = 0; n < h.of[PARCELS]; n++) {
                int[] parcel = h.parcels[n];
                if (parcel[PARCEL_STATE] == LOADED) {
                    int[] sort = h.sorts[h.pallets[parcel[PARCEL_PALLET]][PALLET_SORT]];
                    int warmth = h.trucks[parcel[PARCEL_TRUCK]][TRUCK_WARMTH];
                    parcel[PARCEL_RIPE] = riper(sort, parcel[PARCEL_RIPE], warmth, false);
                    parcel[PARCEL_HARM] = harmed(sort, parcel[PARCEL_HARM], warmth);
                }
            }
        }

        private static void findWarmth(int[] room, int outside) {
            int first = leaked(room, room[ROOM_WARMTH], room[ROOM_DOORS], outside);
            int second = powered(room, first);
            if (second != first) {
                room[ROOM_WORKED]++;
                room[ROOM_SINCE]++;
            }
            room[ROOM_WARMTH] = second;
            room[ROOM_DOORS] = 0;
        }

        /**
         * The RIPE that a PALLET would have, by ripening alone, if it stood in a ROOM (or on THE FLOOR) with so
         * many more DOORS from now on. Nothing but these moves the WARMTH, so one PALLET can be seen alone.
         */
        static int ripeAt(Hall h, int number, int where, int moreDoors, int time) {
            int[] pallet = h.pallets[number];
            int[] sort = h.sorts[pallet[PALLET_SORT]];
            int ripe = pallet[PALLET_RIPE];
            boolean inRoom = where != FLOOR;
            int[] room = h.rooms[inRoom ? where : 0];
            int doors = room[ROOM_DOORS] + moreDoors;
            int warmth = room[ROOM_WARMTH];
            for (int t = h.of[NOW] + 1; t <= time; t++) {
                int outside = h.outside[t / 24];
                warmth = inRoom ? powered(room, leaked(room, warmth, doors, outside)) : outside;
                ripe = riper(sort, ripe, warmth, inRoom && room[ROOM_GAS] == 1);
                doors = 0;
            }
            return ripe;
        }

        private static int fineAt(Hall h, int number, int where, int moreDoors, int time) {
            int ripe = ripeAt(h, number, where, moreDoors, time);
            return Goods.stage(h, h.pallets[number][PALLET_SORT], ripe) == FINE ? 1 : 0;
        }

        /**
         * The best WAY TO PUT AWAY: best[0] is how many are FINE by it, best[1] to best[3] where the three go.
         * A way is told by three figures, 0 to stay, 1 and the number of a ROOM to go there; the first way of
         * like ones is the one that is asked for, as they are tried in that order.
         */
        static void bestWay(Hall h, int time, int[] best) {
            int[] three = {NONE, NONE, NONE};
            int others = findThree(h, time, three);
            int[] fineThere = new int[MOST_ROOMS * 4];
            int[] fineOfThree = new int[3 * (FLOOR + 1) * 4];
            findFine(h, time, three, fineThere, fineOfThree);
            best[0] = NONE;
            int[] goes = new int[3];
            for (int way = 0; way < 343; way++) {
                goes[0] = way / 49;
                goes[1] = way / 7 % 7;
                goes[2] = way % 7;
                if (canGo(h, three, goes)) {
                    int fine = others + fineBy(three, goes, fineThere, fineOfThree);
                    if (fine > best[0]) {
                        best[0] = fine;
                        for (int k = 0; k < 3; k++) {
                            int where = goes[k] == 0 ? FLOOR : goes[k] - 1;
                            best[k + 1] = three[k] == NONE ? NONE : where;
                        }
                    }
                }
            }
        }

        /** Finds the first three PALLETS on THE FLOOR; answers how many of the others there become FINE. */
        private static int findThree(Hall h, int time, int[] three) {
            int many = 0;
            int fine = 0;
            for (int n = 0; n < h.of[PALLETS]; n++) {
                if (h.pallets[n][PALLET_WHERE] == FLOOR) {
                    if (many < 3) {
                        three[many] = n;
                        many++;
                    } else {
                        fine += fineAt(h, n, FLOOR, 0, time);
                    }
                }
            }
            return fine;
        }

        /** How many become FINE in each ROOM with 0 to 3 more DOORS: of those there, and of each of the three. */
        private static void findFine(Hall h, int time, int[] three, int[] fineThere, int[] fineOfThree) {
            for (int n = 0; n < h.of[PALLETS]; n++) {
                int where = h.pallets[n][PALLET_WHERE];
                for (int doors = 0; doors < 4 && where >= 0 && where < FLOOR; doors++) {
                    fineThere[where * 4 + doors] += fineAt(h, n, where, doors, time);
                }
            }
            for (int k = 0; k < 3; k++) {
                if (three[k] != NONE) {
                    for (int doors = 0; doors < 4; doors++) {
                        for (int room = 0; room < h.of[ROOMS]; room++) {
                            fineOfThree[(k * (FLOOR + 1) + room) * 4 + doors] = fineAt(h, three[k], room, doors, time);
                        }
                        fineOfThree[(k * (FLOOR + 1) + FLOOR) * 4 + doors] = fineAt(h, three[k], FLOOR, 0, time);
                    }
                }
            }
        }

        private static boolean canGo(Hall h, int[] three, int[] goes) {
            boolean can = true;
            for (int k = 0; k < 3 && can; k++) {
                if (goes[k] > 0) {
                    int room = goes[k] - 1;
                    can = three[k] != NONE && room < h.of[ROOMS] && !isShut(h, room)
                            && placesLeft(h, room) >= comeTo(goes, room, k);
                }
            }
            return can;
        }

        /** How many of the three, up to the one told last, go to a ROOM. */
        private static int comeTo(int[] goes, int room, int last) {
            int many = 0;
            for (int k = 0; k <= last; k++) {
                if (goes[k] - 1 == room) {
                    many++;
                }
            }
            return many;
        }

        private static int fineBy(int[] three, int[] goes, int[] fineThere, int[] fineOfThree) {
            int fine = 0;
            for (int room = 0; room < MOST_ROOMS; room++) {
                fine += fineThere[room * 4 + comeTo(goes, room, 2)];
            }
            for (int k = 0; k < 3; k++) {
                if (three[k] != NONE) {
                    int where = goes[k] == 0 ? FLOOR : goes[k] - 1;
                    int doors = goes[k] == 0 ? 0 : comeTo(goes, where, 2);
                    fine += fineOfThree[(k * (FLOOR + 1) + where) * 4 + doors];
                }
            }
            return fine;
        }

        static boolean areSound(Hall h) {
            boolean sound = true;
            for (int n = 0; n < h.of[PALLETS] && sound; n++) {
                int[] pallet = h.pallets[n];
                int where = pallet[PALLET_WHERE];
                boolean stands = where == FLOOR || Goods.isFrom(where, 0, h.of[ROOMS] - 1);
                sound = (Goods.isThere(pallet) ? stands : where == NONE)
                        && Goods.isFrom(pallet[PALLET_RIPE], 0, MOST_RIPE)
                        && Goods.isFrom(pallet[PALLET_HARM], 0, MOST_HARM);
            }
            for (int n = 0; n < h.of[PARCELS] && sound; n++) {
                int[] parcel = h.parcels[n];
                int[] pallet = h.pallets[parcel[PARCEL_PALLET]];
                sound = pallet[PALLET_RIPE] >= parcel[PARCEL_LOADED_RIPE]
                        && pallet[PALLET_HARM] >= parcel[PARCEL_LOADED_HARM];
            }
            for (int n = 0; n < h.of[ROOMS] && sound; n++) {
                int[] room = h.rooms[n];
                sound = standing(h, n) <= room[ROOM_PLACES]
                        && Goods.isFrom(room[ROOM_WARMTH], 0, 40)
                        && Goods.isFrom(room[ROOM_SET], 0, 40)
                        && room[ROOM_WORKED] <= h.of[NOW];
            }
            return sound;
        }
    }

    /** Part 3: BUYERS, their BILLS and ORDERS, the PARCELS that are SOLD to them, and THE FILLING. */
    private static final class Buyers {

        static int addBuyer(Hall h, int town, int credit, int term) {
            int[] buyer = h.buyers[h.of[BUYERS]];
            buyer[BUYER_TOWN] = town;
            buyer[BUYER_CREDIT] = credit;
            buyer[BUYER_TERM] = term;
            return h.of[BUYERS]++;
        }

        static int addOrder(Hall h, int buyer, int sort, int worst, int asked, int limit, int weekdays) {
            int[] order = h.orders[h.of[ORDERS]];
            order[ORDER_BUYER] = buyer;
            order[ORDER_SORT] = sort;
            order[ORDER_WORST] = worst;
            order[ORDER_ASKED] = asked;
            order[ORDER_LIMIT] = limit;
            order[ORDER_WEEKDAYS] = weekdays;
            order[ORDER_WANTED] = asked;
            h.buyers[buyer][BUYER_ORDERS]++;
            return h.of[ORDERS]++;
        }

        static int cancelFault(Hall h, int order) {
            if (order < 0 || order >= h.of[ORDERS]) {
                return NO_THING;
            }
            return h.orders[order][ORDER_CANCELLED] == 0 ? FITS : NOT_NOW;
        }

        static int cancelOrder(Hall h, int number) {
            int[] order = h.orders[number];
            int wanted = order[ORDER_WANTED];
            order[ORDER_WANTED] = 0;
            order[ORDER_CANCELLED] = 1;
            return wanted;
        }

        static int payIn(Hall h, int number, int cents) {
            int[] buyer = h.buyers[number];
            buyer[BUYER_PURSE] += cents;
            buyer[BUYER_PAID_IN] += cents;
            Books.enter(h, Books.BUYERS_OWE, Books.CASH, cents, NONE);
            return buyer[BUYER_PURSE];
        }

        static int left(int[] buyer) {
            return buyer[BUYER_CREDIT] + buyer[BUYER_PURSE] - buyer[BUYER_UNPAID];
        }

        static int tellBuyer(Hall h, int number, int what) {
            int[] buyer = h.buyers[number];
            if (what == BUYER_LEFT) {
                return left(buyer);
            }
            if (what != BUYER_OVERDUE && what != BUYER_OPEN) {
                return buyer[what];
            }
            int told = 0;
            for (int n = 0; n < h.of[PARCELS]; n++) {
                int[] bill = h.parcels[n];
                if (bill[PARCEL_BUYER] == number) {
                    if (what == BUYER_OPEN) {
                        told += bill[PARCEL_UNPAID] > 0 ? 1 : 0;
                    } else if (bill[PARCEL_PAYDAY] < h.today()) {
                        told += bill[PARCEL_UNPAID];
                    }
                }
            }
            return told;
        }

        static int tellParcel(Hall h, int[] parcel, int what) {
            int[] pallet = h.pallets[parcel[PARCEL_PALLET]];
            boolean waits = parcel[PARCEL_STATE] == WAITING;
            int ripe = waits ? pallet[PALLET_RIPE] : parcel[PARCEL_RIPE];
            switch (what) {
                case PARCEL_RIPE: return ripe;
                case PARCEL_HARM: return waits ? pallet[PALLET_HARM] : parcel[PARCEL_HARM];
                case PARCEL_STAGE: return Goods.stage(h, pallet[PALLET_SORT], ripe);
                default: return parcel[what];
            }
        }

        static boolean asks(Hall h, int[] order) {
            return order[ORDER_WANTED] > 0 && h.buyers[order[ORDER_BUYER]][BUYER_BLOCKED] == 0
                    && h.isToday(order[ORDER_WEEKDAYS]);
        }

        private static boolean suits(int[] order, int[] pallet) {
            return pallet[PALLET_CRATES] > 0 && pallet[PALLET_GRADE] != NONE
                    && pallet[PALLET_GRADE] <= order[ORDER_WORST] && pallet[PALLET_SORT] == order[ORDER_SORT];
        }

        /** The highest price at which an ORDER that ASKS TAKES a PALLET, as each lower one, too; 0 for none. */
        private static int highestOf(Hall h, int[] order, int[] pallet) {
            if (h.of[PARCELS] >= MOST_PARCELS || !suits(order, pallet)) {
                return 0;
            }
            return Math.max(0, Math.min(order[ORDER_LIMIT], left(h.buyers[order[ORDER_BUYER]])));
        }

        /** The highest price at which a PALLET has a TAKER; 0 for none. */
        static int highestPrice(Hall h, int[] pallet) {
            int highest = 0;
            for (int n = 0; n < h.of[ORDERS]; n++) {
                if (asks(h, h.orders[n])) {
                    highest = Math.max(highest, highestOf(h, h.orders[n], pallet));
                }
            }
            return highest;
        }

        static int takerOf(Hall h, int[] pallet, int price) {
            int taker = NONE;
            int limit = 0;
            for (int n = 0; n < h.of[ORDERS]; n++) {
                int[] order = h.orders[n];
                if (order[ORDER_LIMIT] > limit && asks(h, order) && highestOf(h, order, pallet) >= price) {
                    taker = n;
                    limit = order[ORDER_LIMIT];
                }
            }
            return taker;
        }

        /** A PARCEL of a PALLET is SOLD to its TAKER at a price of 1 or more; answers the PARCEL. */
        static int[] sell(Hall h, int palletNumber, int orderNumber, int price) {
            int[] pallet = h.pallets[palletNumber];
            int[] order = h.orders[orderNumber];
            int[] buyer = h.buyers[order[ORDER_BUYER]];
            int crates = Math.min(order[ORDER_WANTED], pallet[PALLET_CRATES]);
            crates = Math.min(crates, left(buyer) / price);
            int[] parcel = h.parcels[h.of[PARCELS]];
            h.of[PARCELS]++;
            parcel[PARCEL_PALLET] = palletNumber;
            parcel[PARCEL_BUYER] = order[ORDER_BUYER];
            parcel[PARCEL_ORDER] = orderNumber;
            parcel[PARCEL_CRATES] = crates;
            parcel[PARCEL_BAD] = pallet[PALLET_BAD] * crates / pallet[PALLET_CRATES];
            parcel[PARCEL_PRICE] = price;
            parcel[PARCEL_SOLD] = h.of[NOW];
            parcel[PARCEL_GRADE] = pallet[PALLET_GRADE];
            parcel[PARCEL_SOLD_RIPE] = pallet[PALLET_RIPE];
            parcel[PARCEL_STATE] = WAITING;
            parcel[PARCEL_TRUCK] = NONE;
            parcel[PARCEL_LOADED] = NONE;
            parcel[PARCEL_LOADED_RIPE] = NONE;
            parcel[PARCEL_LOADED_HARM] = NONE;
            parcel[PARCEL_DONE] = NONE;
            parcel[PARCEL_GROSS] = crates * price;
            parcel[PARCEL_UNPAID] = parcel[PARCEL_GROSS];
            parcel[PARCEL_PAYDAY] = h.today() + buyer[BUYER_TERM];
            pallet[PALLET_CRATES] -= crates;
            pallet[PALLET_BAD] -= parcel[PARCEL_BAD];
            order[ORDER_WANTED] -= crates;
            order[ORDER_SOLD] += crates;
            buyer[BUYER_UNPAID] += parcel[PARCEL_GROSS];
            buyer[BUYER_SOLD] += crates;
            Books.enterSold(h, parcel);
            return parcel;
        }

        /** What part 3 enters as a PARCEL is LOST. */
        static void enterLost(Hall h, int[] parcel) {
            int[] buyer = h.buyers[parcel[PARCEL_BUYER]];
            int[] order = h.orders[parcel[PARCEL_ORDER]];
            buyer[BUYER_PURSE] += parcel[PARCEL_GROSS] - parcel[PARCEL_UNPAID];
            buyer[BUYER_UNPAID] -= parcel[PARCEL_UNPAID];
            parcel[PARCEL_UNPAID] = 0;
            buyer[BUYER_LOST] += parcel[PARCEL_CRATES];
            if (order[ORDER_CANCELLED] == 0) {
                int wanted = order[ORDER_WANTED] + parcel[PARCEL_CRATES];
                order[ORDER_WANTED] = Math.min(order[ORDER_ASKED], wanted);
            }
        }

        static void come(Hall h, int[] parcel) {
            parcel[PARCEL_STATE] = COME;
            parcel[PARCEL_TRUCK] = NONE;
            parcel[PARCEL_DONE] = h.of[NOW];
            h.buyers[parcel[PARCEL_BUYER]][BUYER_GOT] += parcel[PARCEL_CRATES];
        }

        static void giveBack(Hall h, int[] parcel, int cents) {
            int[] buyer = h.buyers[parcel[PARCEL_BUYER]];
            int less = Math.min(cents, parcel[PARCEL_UNPAID]);
            parcel[PARCEL_UNPAID] -= less;
            buyer[BUYER_UNPAID] -= less;
            buyer[BUYER_PURSE] += cents - less;
            buyer[BUYER_GIVEN_BACK] += cents;
        }

        /** Closes the DAY ahead of TODAY for this part. */
        static void closeDay(Hall h) {
            int ended = h.today() - 1;
            for (int n = 0; n < h.of[BUYERS]; n++) {
                h.buyers[n][BUYER_BLOCKED] = 0;
                for (int payday = 0; payday <= ended; payday++) {
                    payBillsOf(h, n, payday);
                }
            }
            for (int n = 0; n < h.of[ORDERS]; n++) {
                int[] order = h.orders[n];
                if (order[ORDER_CANCELLED] == 0 && h.isToday(order[ORDER_WEEKDAYS])) {
                    order[ORDER_WANTED] = order[ORDER_ASKED];
                }
            }
        }

        /** Pays the BILLS of a BUYER with one PAYDAY as far as its PURSE goes; it is BLOCKED, if it does not. */
        private static void payBillsOf(Hall h, int number, int payday) {
            int[] buyer = h.buyers[number];
            for (int n = 0; n < h.of[PARCELS]; n++) {
                int[] bill = h.parcels[n];
                if (bill[PARCEL_BUYER] == number && bill[PARCEL_PAYDAY] == payday && bill[PARCEL_UNPAID] > 0) {
                    int paid = Math.min(buyer[BUYER_PURSE], bill[PARCEL_UNPAID]);
                    bill[PARCEL_UNPAID] -= paid;
                    buyer[BUYER_UNPAID] -= paid;
                    buyer[BUYER_PURSE] -= paid;
                    if (bill[PARCEL_UNPAID] > 0) {
                        buyer[BUYER_BLOCKED] = 1;
                    }
                }
            }
        }

        /**
         * THE FILLING: how many CRATES each ORDER is given; answers its WORTH. An ORDER with a greater WORST may
         * have all that one with a lesser WORST may have, so the sets of PALLETS are nested, and it is best to
         * give the ORDER with the greatest LIMIT all that it can have, then the next one.
         */
        static int fill(Hall h, int[] given) {
            int[] supply = new int[MOST_SORTS * 4];
            findSupply(h, supply);
            for (int n = 0; n < MOST_ORDERS; n++) {
                given[n] = n < h.of[ORDERS] && asks(h, h.orders[n]) ? NONE : 0;
            }
            int worth = 0;
            for (int turn = 0; turn < MOST_ORDERS; turn++) {
                int next = nextToFill(h, given);
                if (next != NONE) {
                    given[next] = giveFrom(supply, h.orders[next]);
                    worth += given[next] * h.orders[next][ORDER_LIMIT];
                }
            }
            return worth;
        }

        /** CRATES of each SORT with a GRADE of 0 to 3, or a better one. */
        private static void findSupply(Hall h, int[] supply) {
            for (int n = 0; n < h.of[PALLETS]; n++) {
                int[] pallet = h.pallets[n];
                int first = pallet[PALLET_GRADE] == NONE ? 4 : pallet[PALLET_GRADE];
                for (int grade = first; grade < 4; grade++) {
                    supply[pallet[PALLET_SORT] * 4 + grade] += pallet[PALLET_CRATES];
                }
            }
        }

        /** The ORDER with the greatest LIMIT of those that were not given theirs yet (NONE). */
        private static int nextToFill(Hall h, int[] given) {
            int next = NONE;
            for (int n = 0; n < h.of[ORDERS]; n++) {
                if (given[n] == NONE && (next == NONE || h.orders[n][ORDER_LIMIT] > h.orders[next][ORDER_LIMIT])) {
                    next = n;
                }
            }
            return next;
        }

        private static int giveFrom(int[] supply, int[] order) {
            int at = order[ORDER_SORT] * 4;
            int crates = order[ORDER_WANTED];
            for (int grade = order[ORDER_WORST]; grade < 4; grade++) {
                crates = Math.min(crates, supply[at + grade]);
            }
            for (int grade = order[ORDER_WORST]; grade < 4; grade++) {
                supply[at + grade] -= crates;
            }
            return crates;
        }

        static int cratesGiven(Hall h, int[] given) {
            int crates = 0;
            for (int n = 0; n < h.of[ORDERS]; n++) {
                crates += given[n];
            }
            return crates;
        }

        static int howManyAsk(Hall h) {
            int many = 0;
            for (int n = 0; n < h.of[ORDERS]; n++) {
                many += asks(h, h.orders[n]) ? 1 : 0;
            }
            return many;
        }

        static boolean areSound(Hall h) {
            boolean sound = true;
            for (int n = 0; n < h.of[BUYERS] && sound; n++) {
                int[] buyer = h.buyers[n];
                int unpaid = 0;
                int gross = 0;
                for (int k = 0; k < h.of[PARCELS]; k++) {
                    int[] bill = h.parcels[k];
                    if (bill[PARCEL_BUYER] == n) {
                        unpaid += bill[PARCEL_UNPAID];
                        gross += bill[PARCEL_STATE] == LOST ? 0 : bill[PARCEL_GROSS];
                    }
                }
                int left = buyer[BUYER_CREDIT] + buyer[BUYER_PURSE] - unpaid;
                sound = buyer[BUYER_PURSE] >= 0 && left >= 0 && buyer[BUYER_UNPAID] == unpaid
                        && buyer[BUYER_PAID_IN] + buyer[BUYER_GIVEN_BACK] == buyer[BUYER_PURSE] + gross - unpaid;
            }
            for (int n = 0; n < h.of[PARCELS] && sound; n++) {
                int[] bill = h.parcels[n];
                int most = bill[PARCEL_STATE] == LOST ? 0 : bill[PARCEL_GROSS];
                sound = Goods.isFrom(bill[PARCEL_UNPAID], 0, most);
            }
            for (int n = 0; n < h.of[ORDERS] && sound; n++) {
                int[] order = h.orders[n];
                int most = order[ORDER_CANCELLED] == 1 ? 0 : order[ORDER_ASKED];
                sound = Goods.isFrom(order[ORDER_WANTED], 0, most);
            }
            return sound;
        }
    }

    /** Part 4: CLOCKS, their rows of LOTS, and what they sell. */
    private static final class Clocks {

        static final int MOST_IN_BEST_ROW = 5;

        static int addClock(Hall h, int from, int hours, int speed, int step, int rise) {
            int[] clock = h.clocks[h.of[CLOCKS]];
            clock[CLOCK_FROM] = from;
            clock[CLOCK_HOURS] = hours;
            clock[CLOCK_SPEED] = speed;
            clock[CLOCK_STEP] = step;
            clock[CLOCK_RISE] = rise;
            clock[CLOCK_HAND] = NONE;
            clock[CLOCK_LAST] = NONE;
            return h.of[CLOCKS]++;
        }

        static int queueFault(Hall h, int clock, int number, int start, int reserve) {
            if (clock < 0 || clock >= h.of[CLOCKS] || number < 0 || number >= h.of[PALLETS]) {
                return NO_THING;
            }
            if (start < 1 || start > MOST_PRICE || reserve < 1 || reserve > start
                    || start > reserve + MOST_FALLS * h.clocks[clock][CLOCK_STEP]) {
                return OUT_OF_RANGE;
            }
            int[] pallet = h.pallets[number];
            boolean can = pallet[PALLET_STATE] == STORED && pallet[PALLET_CRATES] > 0
                    && !Stores.isShut(h, pallet[PALLET_WHERE]) && h.clocks[clock][CLOCK_LOTS] < MOST_LOTS;
            return can ? FITS : NOT_NOW;
        }

        static int queuePallet(Hall h, int clock, int number, int start, int reserve) {
            int place = h.clocks[clock][CLOCK_LOTS];
            h.pallets[number][PALLET_STATE] = QUEUED;
            writeLot(h, clock * MOST_LOTS + place, number, start, reserve);
            h.clocks[clock][CLOCK_LOTS]++;
            return place;
        }

        private static void writeLot(Hall h, int at, int number, int start, int reserve) {
            h.lots[at][LOT_PALLET] = number;
            h.lots[at][LOT_START] = start;
            h.lots[at][LOT_RESERVE] = reserve;
        }

        static int withdrawFault(Hall h, int number) {
            if (number < 0 || number >= h.of[PALLETS]) {
                return NO_THING;
            }
            return h.pallets[number][PALLET_STATE] == QUEUED ? FITS : NOT_NOW;
        }

        /** Takes a QUEUED PALLET out of its row; answers how many LOTS that CLOCK has then. */
        static int takeOut(Hall h, int number) {
            for (int clock = 0; clock < h.of[CLOCKS]; clock++) {
                for (int place = 0; place < h.clocks[clock][CLOCK_LOTS]; place++) {
                    if (h.lots[clock * MOST_LOTS + place][LOT_PALLET] == number) {
                        h.pallets[number][PALLET_STATE] = STORED;
                        moveUp(h, clock, place);
                        return h.clocks[clock][CLOCK_LOTS];
                    }
                }
            }
            return 0;
        }

        /** Lets the LOT at a place be gone from its row. */
        private static void moveUp(Hall h, int clock, int place) {
            int last = h.clocks[clock][CLOCK_LOTS] - 1;
            for (int at = clock * MOST_LOTS + place; at < clock * MOST_LOTS + last; at++) {
                for (int column = 0; column < LOT_WIDE; column++) {
                    h.lots[at][column] = h.lots[at + 1][column];
                }
            }
            h.clocks[clock][CLOCK_LOTS] = last;
        }

        static boolean isOpen(Hall h, int clock) {
            int hour = h.of[NOW] % 24 - h.clocks[clock][CLOCK_FROM];
            return hour >= 0 && hour < h.clocks[clock][CLOCK_HOURS];
        }

        /** How many LOTS a CLOCK sells in the HOUR of NOW. */
        static int lotsDue(Hall h, int clock) {
            int[] row = h.clocks[clock];
            return isOpen(h, clock) ? Math.min(row[CLOCK_SPEED], row[CLOCK_LOTS]) : 0;
        }

        /**
         * Sells the first LOT of a row. The HAND falls at once to the first price that an ORDER gives, as all
         * higher ones are passed in any case; with each PARCEL there are less CRATES, so 40 turns are enough.
         */
        static void sellFirst(Hall h, int number) {
            int[] clock = h.clocks[number];
            int[] lot = h.lots[number * MOST_LOTS];
            int palletNumber = lot[LOT_PALLET];
            int start = lot[LOT_START];
            int reserve = lot[LOT_RESERVE];
            int[] pallet = h.pallets[palletNumber];
            int step = Math.max(1, clock[CLOCK_STEP]);
            int hand = start;
            for (int turn = 0; turn < 40 && pallet[PALLET_CRATES] > 0; turn++) {
                if (turn > 0) {
                    hand = Math.min(start, hand + clock[CLOCK_RISE] * step);
                }
                int above = Math.max(0, hand - Buyers.highestPrice(h, pallet));
                int falls = (above + step - 1) / step;
                int most = (hand - reserve) / step;
                hand -= step * Math.min(falls, most);
                int order = falls > most ? NONE : Buyers.takerOf(h, pallet, hand);
                if (order == NONE) {
                    break;
                }
                int[] parcel = Buyers.sell(h, palletNumber, order, hand);
                clock[CLOCK_PARCELS]++;
                clock[CLOCK_CRATES] += parcel[PARCEL_CRATES];
                clock[CLOCK_GROSS] += parcel[PARCEL_GROSS];
            }
            clock[CLOCK_HAND] = hand;
            clock[CLOCK_LAST] = palletNumber;
            clock[CLOCK_OVER]++;
            pallet[PALLET_STATE] = STORED;
            moveUp(h, number, 0);
        }

        /** Sells the first LOTS of a row on a copy; answers their TAKINGS. */
        private static int sellOn(Hall copy, int clock, int lots) {
            int before = copy.clocks[clock][CLOCK_GROSS];
            for (int n = 0; n < lots && copy.clocks[clock][CLOCK_LOTS] > 0; n++) {
                sellFirst(copy, clock);
            }
            return copy.clocks[clock][CLOCK_GROSS] - before;
        }

        static int tellTakings(Hall h, Hall copy, int clock, int lots, int what) {
            int[] was = h.clocks[clock];
            int sold = Math.min(lots, was[CLOCK_LOTS]);
            copy.copy(h);
            int takings = sellOn(copy, clock, sold);
            int[] is = copy.clocks[clock];
            switch (what) {
                case 0: return takings;
                case 1: return is[CLOCK_PARCELS] - was[CLOCK_PARCELS];
                case 2: return is[CLOCK_CRATES] - was[CLOCK_CRATES];
                case 4: return sold == 0 ? NONE : is[CLOCK_HAND];
                default: break;
            }
            int empty = 0;
            for (int place = 0; place < sold; place++) {
                int pallet = h.lots[clock * MOST_LOTS + place][LOT_PALLET];
                empty += copy.pallets[pallet][PALLET_CRATES] == 0 ? 1 : 0;
            }
            return empty;
        }

        /** Puts the PALLETS of the BEST ROW of a CLOCK with 1 to 5 LOTS into best; answers its TAKINGS. */
        static int bestRowOf(Hall h, Hall copy, int clock, int[] best) {
            int lots = Math.min(MOST_IN_BEST_ROW, h.clocks[clock][CLOCK_LOTS]);
            int[] row = new int[MOST_IN_BEST_ROW];
            for (int place = 0; place < lots; place++) {
                insert(row, place, h.lots[clock * MOST_LOTS + place][LOT_PALLET]);
            }
            int most = NONE;
            boolean more = true;
            for (int turn = 0; turn < 120 && more; turn++) {
                copy.copy(h);
                for (int place = 0; place < lots; place++) {
                    int[] lot = lotOf(h, clock, row[place]);
                    writeLot(copy, clock * MOST_LOTS + place, row[place], lot[LOT_START], lot[LOT_RESERVE]);
                }
                int takings = sellOn(copy, clock, lots);
                if (takings > most) {
                    most = takings;
                    System.arraycopy(row, 0, best, 0, lots);
                }
                more = nextRow(row, lots);
            }
            return most;
        }

        /** Puts a number among so many that stand in their order. */
        private static void insert(int[] row, int many, int number) {
            int at = many;
            while (at > 0 && row[at - 1] > number) {
                row[at] = row[at - 1];
                at--;
            }
            row[at] = number;
        }

        private static int[] lotOf(Hall h, int clock, int pallet) {
            int at = clock * MOST_LOTS;
            for (int place = 0; place < h.clocks[clock][CLOCK_LOTS]; place++) {
                if (h.lots[clock * MOST_LOTS + place][LOT_PALLET] == pallet) {
                    at = clock * MOST_LOTS + place;
                }
            }
            return h.lots[at];
        }

        /** Makes of a row of unlike numbers the next greater one; answers whether there is one. */
        static boolean nextRow(int[] row, int many) {
            int at = many - 2;
            while (at >= 0 && row[at] > row[at + 1]) {
                at--;
            }
            if (at < 0) {
                return false;
            }
            int with = many - 1;
            while (with > at + 1 && row[with] < row[at]) {
                with--;
            }
            swap(row, at, with);
            for (int low = at + 1, high = many - 1; low < high; low++, high--) {
                swap(row, low, high);
            }
            return true;
        }

        private static void swap(int[] row, int a, int b) {
            int number = row[a];
            row[a] = row[b];
            row[b] = number;
        }

        /** Puts the BEST START of a PALLET into best[0]; answers its TAKINGS. */
        static int bestStartOf(Hall h, Hall copy, int clock, int pallet, int reserve, int[] best) {
            int most = NONE;
            int step = h.clocks[clock][CLOCK_STEP];
            for (int k = 0; k <= MOST_FALLS && reserve + k * step <= MOST_PRICE; k++) {
                copy.copy(h);
                copy.clocks[clock][CLOCK_LOTS] = 1;
                writeLot(copy, clock * MOST_LOTS, pallet, reserve + k * step, reserve);
                int takings = sellOn(copy, clock, 1);
                if (takings > most) {
                    most = takings;
                    best[0] = reserve + k * step;
                }
            }
            return most;
        }

        static boolean areSound(Hall h, Hall copy, int[] row) {
            boolean sound = true;
            for (int n = 0; n < h.of[PALLETS] && sound; n++) {
                boolean queued = h.pallets[n][PALLET_STATE] == QUEUED;
                sound = lotsOf(h, n) == (queued ? 1 : 0) && (!queued || h.pallets[n][PALLET_CRATES] > 0);
            }
            int gross = 0;
            for (int n = 0; n < h.of[PARCELS]; n++) {
                gross += h.parcels[n][PARCEL_GROSS];
            }
            int worth = Buyers.fill(h, row);
            for (int n = 0; n < h.of[CLOCKS] && sound; n++) {
                int lots = h.clocks[n][CLOCK_LOTS];
                int takings = tellTakings(h, copy, n, lots, 0);
                gross -= h.clocks[n][CLOCK_GROSS];
                sound = takings <= worth && (lots < 1 || lots > 3 || takings <= bestRowOf(h, copy, n, row));
            }
            return sound && gross == 0;
        }

        /** How many LOTS there are of a PALLET. */
        private static int lotsOf(Hall h, int pallet) {
            int many = 0;
            for (int clock = 0; clock < h.of[CLOCKS]; clock++) {
                for (int place = 0; place < h.clocks[clock][CLOCK_LOTS]; place++) {
                    if (h.lots[clock * MOST_LOTS + place][LOT_PALLET] == pallet) {
                        many++;
                    }
                }
            }
            return many;
        }
    }

    /** Part 5: WAYS, DOCKS, TRUCKS and their TRIPS. */
    private static final class Carriers {

        /** So many PARCELS at most are parted into LOADS. */
        static final int MOST_PARTED = 10;

        /** In a row of LOADS one number tells both: so many times the LOADS, and the CRATES in the last one. */
        private static final int LOAD = 1000;

        static int changeWay(Hall h, int a, int b, int hours) {
            int was = h.ways[a][b];
            h.ways[a][b] = hours;
            h.ways[b][a] = hours;
            return was;
        }

        static int addTruck(Hall h, int space, int warmth) {
            int[] truck = h.trucks[h.of[TRUCKS]];
            truck[TRUCK_SPACE] = space;
            truck[TRUCK_WARMTH] = warmth;
            truck[TRUCK_GO] = NONE;
            truck[TRUCK_WENT] = NONE;
            truck[TRUCK_HOME] = NONE;
            return h.of[TRUCKS]++;
        }

        private static int cratesIn(Hall h, int truck) {
            int crates = 0;
            for (int n = 0; n < h.of[PARCELS]; n++) {
                if (h.parcels[n][PARCEL_TRUCK] == truck) {
                    crates += h.parcels[n][PARCEL_CRATES];
                }
            }
            return crates;
        }

        private static int parcelsIn(Hall h, int truck) {
            int parcels = 0;
            for (int n = 0; n < h.of[PARCELS]; n++) {
                if (h.parcels[n][PARCEL_TRUCK] == truck) {
                    parcels++;
                }
            }
            return parcels;
        }

        static int atDocks(Hall h) {
            int many = 0;
            for (int n = 0; n < h.of[TRUCKS]; n++) {
                if (h.trucks[n][TRUCK_OUT] == 0 && parcelsIn(h, n) > 0) {
                    many++;
                }
            }
            return many;
        }

        static int loadFault(Hall h, int parcelNumber, int truckNumber) {
            if (parcelNumber < 0 || parcelNumber >= h.of[PARCELS] || truckNumber < 0 || truckNumber >= h.of[TRUCKS]) {
                return NO_THING;
            }
            int[] parcel = h.parcels[parcelNumber];
            int[] truck = h.trucks[truckNumber];
            boolean can = parcel[PARCEL_STATE] == WAITING
                    && !Stores.isShut(h, h.pallets[parcel[PARCEL_PALLET]][PALLET_WHERE])
                    && truck[TRUCK_OUT] == 0
                    && cratesIn(h, truckNumber) + parcel[PARCEL_CRATES] <= truck[TRUCK_SPACE]
                    && (parcelsIn(h, truckNumber) > 0 || atDocks(h) < h.of[DOCKS]);
            return can ? FITS : NOT_NOW;
        }

        static int loadParcel(Hall h, int parcelNumber, int truckNumber) {
            int[] parcel = h.parcels[parcelNumber];
            int[] pallet = h.pallets[parcel[PARCEL_PALLET]];
            parcel[PARCEL_STATE] = LOADED;
            parcel[PARCEL_TRUCK] = truckNumber;
            parcel[PARCEL_RIPE] = pallet[PALLET_RIPE];
            parcel[PARCEL_HARM] = pallet[PALLET_HARM];
            parcel[PARCEL_LOADED] = h.of[NOW];
            parcel[PARCEL_LOADED_RIPE] = pallet[PALLET_RIPE];
            parcel[PARCEL_LOADED_HARM] = pallet[PALLET_HARM];
            Goods.clearIfDone(h, parcel[PARCEL_PALLET]);
            return cratesIn(h, truckNumber);
        }

        static int sendFault(Hall h, int truck, int time) {
            if (truck < 0 || truck >= h.of[TRUCKS]) {
                return NO_THING;
            }
            if (time != NONE && (time <= h.of[NOW] || time > LAST_TIME)) {
                return OUT_OF_RANGE;
            }
            return h.trucks[truck][TRUCK_OUT] == 0 ? FITS : NOT_NOW;
        }

        /** The TOWNS of the BUYERS of the PARCELS in a TRUCK, as a set. */
        static int townsOf(Hall h, int truck) {
            int towns = 0;
            for (int n = 0; n < h.of[PARCELS]; n++) {
                if (h.parcels[n][PARCEL_TRUCK] == truck) {
                    towns |= 1 << townOf(h, h.parcels[n]);
                }
            }
            return towns;
        }

        private static int townOf(Hall h, int[] parcel) {
            return h.buyers[parcel[PARCEL_BUYER]][BUYER_TOWN];
        }

        /**
         * The TRIP through a set of TOWNS, NONE behind its end; answers its LONG. Rows are tried from the lowest
         * TOWNS on, so that of rows that take as long the first one tried stays.
         */
        static int shortestTrip(Hall h, int towns, int[] trip) {
            int[] row = new int[TOWNS];
            int many = 0;
            for (int town = 0; town < TOWNS; town++) {
                trip[town] = NONE;
                if ((towns >> town & 1) == 1) {
                    row[many] = town;
                    many++;
                }
            }
            int fewest = NONE;
            boolean more = true;
            for (int turn = 0; turn < 120 && more; turn++) {
                int hours = hoursOf(h, row, many);
                if (fewest == NONE || hours < fewest) {
                    fewest = hours;
                    System.arraycopy(row, 0, trip, 0, many);
                }
                more = Clocks.nextRow(row, many);
            }
            return fewest;
        }

        /** How long it takes from THE HALL through a row of so many TOWNS, and back. */
        private static int hoursOf(Hall h, int[] row, int many) {
            int hours = 0;
            int at = THE_HALL;
            for (int place = 0; place < many; place++) {
                hours += h.ways[at][row[place]];
                at = row[place];
            }
            return hours + h.ways[at][THE_HALL];
        }

        /**
         * The LONG of the TRIP through a set of TOWNS, found by sets: how long it takes at least from a place
         * through a set of TOWNS to THE HALL, from what it takes through the sets with one TOWN less.
         */
        private static int longBySets(Hall h, int towns) {
            int[] fewest = new int[(1 << TOWNS) * (THE_HALL + 1)];
            for (int set = 0; set < 1 << TOWNS; set++) {
                for (int at = 0; at <= THE_HALL; at++) {
                    int hours = set == 0 ? h.ways[at][THE_HALL] : LAST_TIME;
                    for (int town = 0; town < TOWNS; town++) {
                        if ((set >> town & 1) == 1) {
                            int rest = set & ~(1 << town);
                            hours = Math.min(hours, h.ways[at][town] + fewest[rest * (THE_HALL + 1) + town]);
                        }
                    }
                    fewest[set * (THE_HALL + 1) + at] = hours;
                }
            }
            return fewest[towns * (THE_HALL + 1) + THE_HALL];
        }

        /** Step 6 of an HOUR for one TRUCK. */
        static void goIfDue(Hall h, int number) {
            int[] truck = h.trucks[number];
            if (truck[TRUCK_OUT] == 1 || truck[TRUCK_GO] != h.of[NOW]) {
                return;
            }
            truck[TRUCK_GO] = NONE;
            int towns = townsOf(h, number);
            if (towns == 0) {
                return;
            }
            int[] trip = new int[TOWNS];
            truck[TRUCK_LONG] = shortestTrip(h, towns, trip);
            truck[TRUCK_OUT] = 1;
            truck[TRUCK_WENT] = h.of[NOW];
            truck[TRUCK_HOME] = h.of[NOW] + truck[TRUCK_LONG];
            truck[TRUCK_TIMES]++;
            int at = THE_HALL;
            int due = h.of[NOW];
            for (int place = 0; place < TOWNS; place++) {
                int town = trip[place];
                if (town != NONE) {
                    due += h.ways[at][town];
                    at = town;
                }
                truck[TRUCK_TRIP + place] = town;
                truck[TRUCK_DUE + place] = town == NONE ? NONE : due;
            }
        }

        /** Step 2 of an HOUR. */
        static void arrive(Hall h) {
            for (int n = 0; n < h.of[TRUCKS]; n++) {
                int[] truck = h.trucks[n];
                if (truck[TRUCK_OUT] == 1) {
                    for (int place = 0; place < TOWNS; place++) {
                        if (truck[TRUCK_DUE + place] == h.of[NOW]) {
                            bring(h, n, truck[TRUCK_TRIP + place]);
                        }
                    }
                    if (truck[TRUCK_HOME] == h.of[NOW]) {
                        truck[TRUCK_OUT] = 0;
                        truck[TRUCK_HOME] = NONE;
                        truck[TRUCK_GONE] += truck[TRUCK_LONG];
                        int cents = h.tariffs[Books.AN_HOUR_GONE] * truck[TRUCK_LONG];
                        Books.enter(h, Books.CASH, Books.HAULS, cents, NONE);
                    }
                }
            }
        }

        private static void bring(Hall h, int truck, int town) {
            for (int n = 0; n < h.of[PARCELS]; n++) {
                int[] parcel = h.parcels[n];
                if (parcel[PARCEL_TRUCK] == truck && townOf(h, parcel) == town) {
                    Buyers.come(h, parcel);
                }
            }
        }

        static int tellTruck(Hall h, int number, int what) {
            int[] truck = h.trucks[number];
            boolean isOut = truck[TRUCK_OUT] == 1;
            switch (what) {
                case TRUCK_CRATES: return cratesIn(h, number);
                case TRUCK_PARCELS: return parcelsIn(h, number);
                case TRUCK_LONG: return isOut ? truck[TRUCK_LONG] : shortestTrip(h, townsOf(h, number), new int[TOWNS]);
                case TRUCK_NEXT: return isOut ? nextDue(h, truck) : NONE;
                default: return truck[what];
            }
        }

        /** The TOWN in which a TRUCK that is OUT is due next, or THE HALL. */
        private static int nextDue(Hall h, int[] truck) {
            int next = THE_HALL;
            for (int place = TOWNS - 1; place >= 0; place--) {
                if (truck[TRUCK_DUE + place] > h.of[NOW]) {
                    next = truck[TRUCK_TRIP + place];
                }
            }
            return next;
        }

        /** Puts the CRATES of the WAITING PARCELS for a TOWN into a row, if they are not too many; answers how many. */
        static int partedFor(Hall h, int town, int[] row) {
            int many = 0;
            for (int n = 0; n < h.of[PARCELS]; n++) {
                int[] parcel = h.parcels[n];
                if (parcel[PARCEL_STATE] == WAITING && (town == THE_HALL || townOf(h, parcel) == town)) {
                    if (many < MOST_PARTED) {
                        row[many] = parcel[PARCEL_CRATES];
                    }
                    many++;
                }
            }
            return many;
        }

        static int greatest(int[] row, int many) {
            int greatest = 0;
            for (int n = 0; n < many; n++) {
                greatest = Math.max(greatest, row[n]);
            }
            return greatest;
        }

        /**
         * The FEWEST LOADS, by sets of PARCELS: of each set the fewest LOADS, and then the fewest CRATES in the
         * last one, are found from those of the sets with one PARCEL less.
         */
        static int fewestLoads(int[] crates, int many, int space, int[] loads) {
            loads[0] = space;
            for (int set = 1; set < 1 << many; set++) {
                loads[set] = (many + 1) * LOAD;
                for (int n = 0; n < many; n++) {
                    if ((set >> n & 1) == 1) {
                        int ahead = loads[set & ~(1 << n)];
                        boolean fits = ahead % LOAD + crates[n] <= space;
                        int with = fits ? ahead + crates[n] : (ahead / LOAD + 1) * LOAD + crates[n];
                        loads[set] = Math.min(loads[set], with);
                    }
                }
            }
            return loads[(1 << many) - 1] / LOAD;
        }

        static boolean areSound(Hall h) {
            boolean sound = atDocks(h) <= h.of[DOCKS];
            for (int n = 0; n < h.of[PARCELS] && sound; n++) {
                int[] parcel = h.parcels[n];
                boolean inTruck = Goods.isFrom(parcel[PARCEL_TRUCK], 0, h.of[TRUCKS] - 1);
                sound = parcel[PARCEL_STATE] == LOADED ? inTruck && isDue(h, parcel) : parcel[PARCEL_TRUCK] == NONE;
            }
            for (int n = 0; n < h.of[TRUCKS] && sound; n++) {
                int[] truck = h.trucks[n];
                boolean isOut = truck[TRUCK_OUT] == 1;
                boolean isOnTrip = truck[TRUCK_WENT] <= h.of[NOW] && h.of[NOW] < truck[TRUCK_HOME];
                int towns = townsOf(h, n);
                sound = cratesIn(h, n) <= truck[TRUCK_SPACE]
                        && (isOut ? isOnTrip : shortestTrip(h, towns, new int[TOWNS]) == longBySets(h, towns));
            }
            return sound;
        }

        /** Whether a LOADED PARCEL, if its TRUCK is OUT, is for a TOWN in which that is due yet. */
        private static boolean isDue(Hall h, int[] parcel) {
            int[] truck = h.trucks[parcel[PARCEL_TRUCK]];
            boolean due = truck[TRUCK_OUT] == 0;
            for (int place = 0; place < TOWNS; place++) {
                due |= truck[TRUCK_TRIP + place] == townOf(h, parcel) && truck[TRUCK_DUE + place] > h.of[NOW];
            }
            return due;
        }
    }

    /** Part 6: INSPECTORS, their ROUNDS, LOOKS, FINDINGS and SEARCHES. */
    private static final class Rounds {

        static int addInspector(Hall h, int hour, int strict) {
            int[] inspector = h.inspectors[h.of[INSPECTORS]];
            inspector[INSPECTOR_HOUR] = hour;
            inspector[INSPECTOR_STRICT] = strict;
            inspector[INSPECTOR_LATEST] = NONE;
            return h.of[INSPECTORS]++;
        }

        /** Whether a number tells STOPS: up to 6 figures, each THE FLOOR or a ROOM that there is, or 0 alone. */
        static boolean areStops(Hall h, int stops) {
            boolean are = stops >= 0 && stops <= 999999;
            for (int rest = stops; rest > 0 && are; rest /= 10) {
                are = isStop(h, rest % 10);
            }
            return are;
        }

        static int changeRound(Hall h, int number, int weekdays, int stops) {
            h.inspectors[number][INSPECTOR_WEEKDAYS] = weekdays;
            h.inspectors[number][INSPECTOR_STOPS] = stops;
            return howManyStops(stops);
        }

        private static int howManyStops(int stops) {
            int many = 0;
            for (int rest = stops; rest > 0; rest /= 10) {
                many++;
            }
            return many;
        }

        /** The STOP at which an INSPECTOR looks at a TIME by his ROUND, as a figure; NONE, if at none. */
        static int stopAt(int[] inspector, int time) {
            int place = time % 24 - inspector[INSPECTOR_HOUR];
            int behind = howManyStops(inspector[INSPECTOR_STOPS]) - 1 - place;
            if (place < 0 || behind < 0 || (inspector[INSPECTOR_WEEKDAYS] >> time / 24 % 7 & 1) == 0) {
                return NONE;
            }
            int rest = inspector[INSPECTOR_STOPS];
            for (int n = 0; n < behind; n++) {
                rest /= 10;
            }
            return rest % 10;
        }

        /** The kind of the FINDING that a PALLET is for an INSPECTOR; NONE, if it is none. */
        private static int kindOf(Hall h, int[] inspector, int[] pallet) {
            int least = Goods.least(h, pallet);
            int grade = pallet[PALLET_GRADE];
            if (least == ROTTEN) {
                return 0;
            }
            if (pallet[PALLET_HARM] >= 24 && grade >= 0 && grade <= 2) {
                return 1;
            }
            return inspector[INSPECTOR_STRICT] >= 1 && grade != NONE && grade < least ? 2 : NONE;
        }

        /** An INSPECTOR looks at a STOP; answers how many FINDINGS there were. */
        static int look(Hall h, int number, int stop) {
            int[] inspector = h.inspectors[number];
            int where = stop == FLOOR_STOP ? FLOOR : stop - 1;
            int findings = 0;
            for (int n = 0; n < h.of[PALLETS]; n++) {
                int[] pallet = h.pallets[n];
                int kind = pallet[PALLET_WHERE] == where ? kindOf(h, inspector, pallet) : NONE;
                if (kind != NONE) {
                    writeFinding(h, number, stop, n, kind);
                    if (kind == 0) {
                        Goods.takeAway(h, n, SEIZED);
                        inspector[INSPECTOR_SEIZED]++;
                    } else {
                        pallet[PALLET_GRADE] = kind == 1 ? 3 : Goods.least(h, pallet);
                    }
                    Books.enter(h, Books.CASH, Books.FINES, h.tariffs[Books.A_FINDING], n);
                    findings++;
                }
            }
            inspector[INSPECTOR_FINDINGS] += findings;
            inspector[INSPECTOR_LOOKS]++;
            inspector[INSPECTOR_LATEST] = h.of[NOW];
            if (where >= 0 && where < FLOOR && findings >= 4 - inspector[INSPECTOR_STRICT]) {
                h.rooms[where][ROOM_SHUT] = h.of[NOW] + 24;
            }
            return findings;
        }

        /** Keeps a FINDING; this is done ahead of what it does, as the GRADE is kept that there was. */
        private static void writeFinding(Hall h, int number, int stop, int pallet, int kind) {
            int[] finding = h.findings[h.of[FINDINGS] % KEPT_FINDINGS];
            finding[FINDING_INSPECTOR] = number;
            finding[FINDING_TIME] = h.of[NOW];
            finding[FINDING_PALLET] = pallet;
            finding[FINDING_KIND] = kind;
            finding[FINDING_STOP] = stop;
            finding[FINDING_GRADE] = h.pallets[pallet][PALLET_GRADE];
            h.of[FINDINGS]++;
        }

        static int[] findingBack(Hall h, int back) {
            int at = Math.max(0, h.of[FINDINGS] - 1 - back);
            return h.findings[at % KEPT_FINDINGS];
        }

        static int tellInspector(Hall h, int[] inspector, int what) {
            if (what < INSPECTOR_NEXT) {
                return inspector[what];
            }
            for (int time = h.of[NOW] + 1; time <= LAST_TIME; time++) {
                int stop = stopAt(inspector, time);
                if (stop != NONE) {
                    return what == INSPECTOR_NEXT ? time : stop;
                }
            }
            return NONE;
        }

        /**
         * The best SEARCH of an INSPECTOR: best[0] is how many FINDINGS, best[1] its STOPS. The STOPS are tried
         * from the least number on; each spare is what the LOOKS ahead of it have left.
         */
        static void search(Hall h, int number, Hall[] spares, int[] best) {
            int hour = h.inspectors[number][INSPECTOR_HOUR];
            int day = h.of[NOW] % 24 < hour ? h.today() : h.today() + 1;
            best[0] = NONE;
            best[1] = NONE;
            if (day >= DAYS) {
                return;
            }
            spares[0].copy(h);
            for (int time = h.of[NOW]; time < day * 24 + hour; time++) {
                anHourLater(spares[0]);
            }
            for (int first = 1; first <= FLOOR_STOP; first++) {
                int byFirst = isStop(h, first) ? lookAhead(spares[0], spares[1], number, first) : NONE;
                for (int second = 1; second <= FLOOR_STOP && byFirst != NONE; second++) {
                    int bySecond = isStop(h, second) ? lookAhead(spares[1], spares[2], number, second) : NONE;
                    for (int third = 1; third <= FLOOR_STOP && bySecond != NONE; third++) {
                        int findings = byFirst + bySecond + findingsAt(spares[2], number, third);
                        if (isStop(h, third) && findings > best[0]) {
                            best[0] = findings;
                            best[1] = first * 100 + second * 10 + third;
                        }
                    }
                }
            }
        }

        private static boolean isStop(Hall h, int figure) {
            return figure == FLOOR_STOP || Goods.isFrom(figure, 1, h.of[ROOMS]);
        }

        private static void anHourLater(Hall copy) {
            copy.of[NOW]++;
            Stores.growOlder(copy);
        }

        /** Looks at a STOP on a copy, and lets an HOUR go by there; answers how many FINDINGS there were. */
        private static int lookAhead(Hall from, Hall copy, int number, int stop) {
            copy.copy(from);
            int findings = look(copy, number, stop);
            anHourLater(copy);
            return findings;
        }

        private static int findingsAt(Hall h, int number, int stop) {
            int where = stop == FLOOR_STOP ? FLOOR : stop - 1;
            int findings = 0;
            for (int n = 0; n < h.of[PALLETS]; n++) {
                if (h.pallets[n][PALLET_WHERE] == where && kindOf(h, h.inspectors[number], h.pallets[n]) != NONE) {
                    findings++;
                }
            }
            return findings;
        }

        static boolean areSound(Hall h) {
            int seized = 0;
            int findings = 0;
            for (int n = 0; n < h.of[INSPECTORS]; n++) {
                seized += h.inspectors[n][INSPECTOR_SEIZED];
                findings += h.inspectors[n][INSPECTOR_FINDINGS];
            }
            int kept = Math.min(h.of[FINDINGS], KEPT_FINDINGS);
            boolean sound = findings >= kept && seized == h.tellSum(5 + SEIZED);
            int later = h.of[NOW];
            for (int back = 0; back < kept && sound; back++) {
                int[] finding = findingBack(h, back);
                sound = finding[FINDING_TIME] <= later && (finding[FINDING_KIND] != 0
                        || h.pallets[finding[FINDING_PALLET]][PALLET_STATE] == SEIZED);
                later = finding[FINDING_TIME];
            }
            for (int n = 0; n < h.of[ROOMS] && sound; n++) {
                sound = h.rooms[n][ROOM_SHUT] <= h.of[NOW] + 24;
            }
            return sound;
        }
    }

    /** Part 7: the ACCOUNTS, what is entered there, QUARRELS and who bears them. */
    private static final class Books {

        static final int CASH = 0, BUYERS_OWE = 1, GROWERS_DUE = 2, CUTS = 3, POWER = 4, HAULS = 5, SAMPLES = 6,
                FINES = 7, LOSSES = 8, RESULT = 9;

        /** The TARIFFS. */
        static final int A_SAMPLE = 0, AN_HOUR_OF_POWER = 1, AN_HOUR_GONE = 2, A_FINDING = 3;

        private static final int PENDING = 0, DISMISSED = 1, UPHELD = 2;

        /** The CAUSES; any other one is that it was late. */
        private static final int NOT_FINE = 0, BAD_CRATES = 1, HARM_DONE = 2;

        /** Of 100 CRATES more than so many are to be BAD, by the GRADE, for an AWARD. */
        private static final int[] BAD_BORNE = {5, 15, 30, 60};

        static void enter(Hall h, int from, int to, int cents, int pallet) {
            if (cents == 0) {
                return;
            }
            h.accounts[from] -= cents;
            h.accounts[to] += cents;
            int[] entry = h.entries[h.of[ENTRIES] % KEPT_ENTRIES];
            entry[ENTRY_FROM] = from;
            entry[ENTRY_TO] = to;
            entry[ENTRY_CENTS] = cents;
            entry[ENTRY_PALLET] = pallet;
            entry[ENTRY_TIME] = h.of[NOW];
            h.of[ENTRIES]++;
        }

        /** What part 7 enters as a PARCEL is SOLD. */
        static void enterSold(Hall h, int[] parcel) {
            int pallet = parcel[PARCEL_PALLET];
            int gross = parcel[PARCEL_GROSS];
            int[] grower = h.growers[h.pallets[pallet][PALLET_GROWER]];
            int fee = gross * grower[GROWER_CUT] / 100;
            enter(h, GROWERS_DUE, BUYERS_OWE, gross, pallet);
            enter(h, CUTS, GROWERS_DUE, fee, pallet);
            grower[GROWER_DUE] += gross - fee;
            grower[GROWER_GROSS] += gross;
            grower[GROWER_FEES] += fee;
        }

        static boolean canQuarrel(Hall h, int parcelNumber) {
            int[] parcel = h.parcels[parcelNumber];
            boolean can = parcel[PARCEL_STATE] == COME && h.of[NOW] - parcel[PARCEL_DONE] <= 48
                    && h.of[QUARRELS] < MOST_QUARRELS;
            for (int n = 0; n < h.of[QUARRELS]; n++) {
                can &= h.quarrels[n][QUARREL_PARCEL] != parcelNumber;
            }
            return can;
        }

        static int addQuarrel(Hall h, int parcel, int cause) {
            int[] quarrel = h.quarrels[h.of[QUARRELS]];
            quarrel[QUARREL_PARCEL] = parcel;
            quarrel[QUARREL_CAUSE] = cause;
            quarrel[QUARREL_STATE] = PENDING;
            quarrel[QUARREL_TIME] = h.of[NOW];
            return h.of[QUARRELS]++;
        }

        /** The AWARD of a PARCEL that is COME. */
        static int award(Hall h, int[] parcel, int cause) {
            int gross = parcel[PARCEL_GROSS];
            if (cause == NOT_FINE) {
                int stage = Goods.stage(h, h.pallets[parcel[PARCEL_PALLET]][PALLET_SORT], parcel[PARCEL_RIPE]);
                if (stage == FINE) {
                    return 0;
                }
                return stage == ROTTEN ? gross : gross / 3;
            }
            if (cause == BAD_CRATES) {
                int crates = Math.max(1, parcel[PARCEL_CRATES]);
                int borne = BAD_BORNE[Math.min(3, Math.max(0, parcel[PARCEL_GRADE]))];
                return 100 * parcel[PARCEL_BAD] > borne * crates ? gross * parcel[PARCEL_BAD] / crates : 0;
            }
            if (cause == HARM_DONE) {
                return parcel[PARCEL_HARM] >= 6 ? gross * Math.min(24, parcel[PARCEL_HARM]) / 24 : 0;
            }
            return parcel[PARCEL_DONE] - parcel[PARCEL_SOLD] > 48 ? gross / 4 : 0;
        }

        /** Shares an AWARD out by the WEIGHTS of its CAUSE. */
        static void shareAward(Hall h, int[] parcel, int cause, int award, int[] shares) {
            int sort = h.pallets[parcel[PARCEL_PALLET]][PALLET_SORT];
            int grower = 0;
            int hall = 0;
            int carrier = 0;
            if (cause == BAD_CRATES || cause == NOT_FINE && Goods.stage(h, sort, parcel[PARCEL_RIPE]) == GREEN) {
                grower = 1;
            } else if (cause == NOT_FINE) {
                grower = Math.max(0, parcel[PARCEL_SOLD_RIPE] - h.sorts[sort][SORT_PRIME]);
                hall = parcel[PARCEL_LOADED_RIPE] - parcel[PARCEL_SOLD_RIPE];
                carrier = parcel[PARCEL_RIPE] - parcel[PARCEL_LOADED_RIPE];
            } else if (cause == HARM_DONE) {
                hall = parcel[PARCEL_LOADED_HARM];
                carrier = parcel[PARCEL_HARM] - parcel[PARCEL_LOADED_HARM];
            } else {
                hall = parcel[PARCEL_LOADED] - parcel[PARCEL_SOLD];
                carrier = parcel[PARCEL_DONE] - parcel[PARCEL_LOADED];
            }
            if (grower + hall + carrier == 0) {
                hall = 1;
            }
            share(award, grower, hall, carrier, shares);
        }

        /** The SHARES of some cents by three WEIGHTS that are not all 0. */
        static void share(int cents, int first, int second, int third, int[] shares) {
            int[] weights = {first, second, third};
            long all = first + second + third;
            if (all < 1) {
                return;
            }
            long[] rests = new long[3];
            int left = cents;
            for (int n = 0; n < 3; n++) {
                long part = (long) cents * weights[n];
                shares[n] = (int) (part / all);
                rests[n] = part % all;
                left -= shares[n];
            }
            for (int turn = 0; turn < 3 && left > 0; turn++) {
                int to = 0;
                for (int n = 1; n < 3; n++) {
                    if (rests[n] > rests[to]) {
                        to = n;
                    }
                }
                shares[to]++;
                rests[to] = NONE;
                left--;
            }
        }

        /** Closes the DAY ahead of TODAY for this part. */
        static void closeDay(Hall h) {
            int hours = 0;
            for (int n = 0; n < h.of[ROOMS]; n++) {
                hours += h.rooms[n][ROOM_SINCE];
                h.rooms[n][ROOM_SINCE] = 0;
            }
            enter(h, CASH, POWER, hours * h.tariffs[AN_HOUR_OF_POWER], NONE);
            for (int n = 0; n < h.of[QUARRELS]; n++) {
                if (h.quarrels[n][QUARREL_STATE] == PENDING) {
                    judge(h, h.quarrels[n]);
                }
            }
            if ((h.today() - 1) % 7 == 6) {
                payOut(h);
            }
            for (int account = CUTS; account <= LOSSES; account++) {
                int cents = h.accounts[account];
                if (cents > 0) {
                    enter(h, account, RESULT, cents, NONE);
                } else {
                    enter(h, RESULT, account, -cents, NONE);
                }
            }
        }

        private static void judge(Hall h, int[] quarrel) {
            int[] parcel = h.parcels[quarrel[QUARREL_PARCEL]];
            int award = award(h, parcel, quarrel[QUARREL_CAUSE]);
            if (award == 0) {
                quarrel[QUARREL_STATE] = DISMISSED;
                return;
            }
            int[] shares = new int[3];
            shareAward(h, parcel, quarrel[QUARREL_CAUSE], award, shares);
            quarrel[QUARREL_STATE] = UPHELD;
            quarrel[QUARREL_AWARD] = award;
            System.arraycopy(shares, 0, quarrel, QUARREL_SHARES, 3);
            Buyers.giveBack(h, parcel, award);
            int pallet = parcel[PARCEL_PALLET];
            int[] grower = h.growers[h.pallets[pallet][PALLET_GROWER]];
            enter(h, BUYERS_OWE, LOSSES, award, pallet);
            enter(h, LOSSES, GROWERS_DUE, shares[0], pallet);
            enter(h, LOSSES, CASH, shares[2], pallet);
            grower[GROWER_DUE] -= shares[0];
            grower[GROWER_SHARES] += shares[0];
        }

        /** Pays each GROWER what is DUE. */
        private static void payOut(Hall h) {
            for (int n = 0; n < h.of[GROWERS]; n++) {
                int[] grower = h.growers[n];
                if (grower[GROWER_DUE] > 0) {
                    enter(h, CASH, GROWERS_DUE, grower[GROWER_DUE], NONE);
                    grower[GROWER_PAID] += grower[GROWER_DUE];
                    grower[GROWER_DUE] = 0;
                }
            }
        }

        static boolean areSound(Hall h) {
            int all = 0;
            for (int n = CASH; n <= RESULT; n++) {
                all += h.accounts[n];
            }
            int owed = 0;
            for (int n = 0; n < h.of[PARCELS]; n++) {
                owed += h.parcels[n][PARCEL_UNPAID];
            }
            for (int n = 0; n < h.of[BUYERS]; n++) {
                owed -= h.buyers[n][BUYER_PURSE];
            }
            int due = 0;
            for (int n = 0; n < h.of[GROWERS]; n++) {
                due += h.growers[n][GROWER_DUE];
            }
            boolean sound = all == 0 && h.accounts[BUYERS_OWE] == owed && h.accounts[GROWERS_DUE] + due == 0;
            for (int n = 0; n < h.of[QUARRELS] && sound; n++) {
                int[] quarrel = h.quarrels[n];
                int borne = 0;
                boolean none = true;
                for (int who = 0; who < 3; who++) {
                    borne += quarrel[QUARREL_SHARES + who];
                    none &= quarrel[QUARREL_SHARES + who] == 0;
                }
                sound = quarrel[QUARREL_STATE] == UPHELD ? borne == quarrel[QUARREL_AWARD] : none;
            }
            return sound;
        }
    }

    /** Tells a season by DRAWS of one seed, in the order of the parts. */
    private static final class Season {
        private final Hall h;
        private final int size;
        private int x;

        Season(Hall hall, int seed, int size) {
            this.h = hall;
            this.x = seed;
            this.size = size;
        }

        private int draw(int n) {
            x = Goods.nextSeed(x);
            return x / 16 % Math.max(1, n);
        }

        /** Answers how many PALLETS there are. */
        int tellAll() {
            tellGoods();
            tellStores();
            tellBuyers();
            tellClocks();
            tellCarriers();
            tellRounds();
            return h.of[PALLETS];
        }

        private void tellGoods() {
            int sorts = 2 + draw(4);
            for (int n = 0; n < sorts; n++) {
                Goods.addSort(h, 1 + draw(9), draw(13), draw(13), 100 + draw(501), 10 + draw(90));
            }
            int growers = 2 + draw(5);
            for (int n = 0; n < growers; n++) {
                Goods.addGrower(h, draw(26), draw(10));
            }
            for (int n = 0; n < size; n++) {
                int grower = draw(growers);
                int sort = draw(sorts);
                int crates = 1 + draw(40);
                int ripe = draw(301);
                int bad = draw(crates * (10 - h.growers[grower][GROWER_CARE]) / 10 + 1);
                int pallet = Goods.addPallet(h, grower, sort, crates, ripe, bad);
                if (draw(2) == 1) {
                    h.pallets[pallet][PALLET_GRADE] = draw(4);
                }
            }
        }

        private void tellStores() {
            int rooms = draw(5);
            for (int n = 0; n < rooms; n++) {
                int room = Stores.addRoom(h, 1 + draw(12), draw(10), draw(10));
                h.rooms[room][ROOM_SET] = draw(41);
                h.rooms[room][ROOM_GAS] = draw(2);
            }
            for (int day = 0; day < DAYS; day++) {
                h.outside[day] = draw(41);
            }
            for (int n = 0; n < h.of[PALLETS]; n++) {
                int room = draw(rooms + 1);
                if (room < rooms && Stores.placesLeft(h, room) > 0) {
                    Stores.putPallet(h, n, room);
                }
            }
        }

        private void tellBuyers() {
            for (int n = 0; n < 2 * size && n < MOST_BUYERS; n++) {
                Buyers.addBuyer(h, draw(TOWNS), 100000 * (1 + draw(40)), draw(8));
            }
            for (int n = 0; n < 4 * size && n < MOST_ORDERS; n++) {
                Buyers.addOrder(h, draw(h.of[BUYERS]), draw(h.of[SORTS]), draw(4), 1 + draw(40), 100 + draw(900),
                        1 + draw(127));
            }
        }

        private void tellClocks() {
            int clocks = size > 3 ? 2 : 1;
            for (int n = 0; n < clocks; n++) {
                Clocks.addClock(h, 4 + draw(4), 1 + draw(4), 1 + draw(4), 10 + 10 * draw(9), draw(5));
            }
            for (int n = 0; n < h.of[PALLETS]; n++) {
                if (h.pallets[n][PALLET_GRADE] != NONE) {
                    int clock = draw(clocks);
                    int start = 200 + 50 * draw(40);
                    int reserve = Math.max(1, start - h.clocks[clock][CLOCK_STEP] * draw(60));
                    if (Clocks.queueFault(h, clock, n, start, reserve) == FITS) {
                        Clocks.queuePallet(h, clock, n, start, reserve);
                    }
                }
            }
        }

        private void tellCarriers() {
            for (int a = 0; a <= THE_HALL; a++) {
                for (int b = a + 1; b <= THE_HALL; b++) {
                    Carriers.changeWay(h, a, b, 1 + draw(12));
                }
            }
            h.of[DOCKS] = 1 + draw(4);
            for (int n = 0; n < size && n < MOST_TRUCKS; n++) {
                Carriers.addTruck(h, 20 + draw(60), 2 + draw(13));
            }
        }

        private void tellRounds() {
            int inspectors = draw(3);
            for (int n = 0; n < inspectors; n++) {
                int inspector = Rounds.addInspector(h, draw(19), draw(4));
                int weekdays = draw(128);
                int many = draw(MOST_STOPS + 1);
                int stops = 0;
                for (int stop = 0; stop < many; stop++) {
                    int where = draw(h.of[ROOMS] + 1);
                    stops = stops * 10 + (where < h.of[ROOMS] ? where + 1 : FLOOR_STOP);
                }
                Rounds.changeRound(h, inspector, weekdays, stops);
            }
        }
    }

    /** THE SLATE: signs that may be TASKS. */
    private static final class Slate {
        private static final String LETTERS = "pqwlgdc";
        private static final int MOST_FIGURES = 5;

        private final int[] signs = new int[MOST_SIGNS];
        int length = 0;

        int write(int code) {
            signs[length] = code;
            length++;
            return length;
        }

        /** FITS, if there are TASKS alone; otherwise what tasks() tells of the first sign that can not stand there. */
        int fault(int[] task) {
            int at = 0;
            for (int turn = 0; turn < MOST_SIGNS && at >= 0 && at < length; turn++) {
                at = readTask(at, task);
            }
            if (length == 0) {
                return -2;
            }
            return at < 0 ? at : FITS;
        }

        /** Reads a TASK as the act that it stands for; answers the place behind it, or -2 less that of its fault. */
        int readTask(int from, int[] task) {
            int letter = LETTERS.indexOf((char) signs[from]);
            if (letter < 0) {
                return -2 - from;
            }
            for (int n = 0; n < ACT_WIDE; n++) {
                task[n] = 0;
            }
            task[0] = kindOf(letter);
            int numbers = howManyNumbers(task[0]);
            int at = from + 1;
            for (int n = 1; n <= numbers && at >= 0; n++) {
                boolean orNone = n == 2 && (task[0] == ACT_PUT || task[0] == ACT_SEND);
                at = readNumber(at, orNone, task, n);
                if (at >= 0) {
                    at = isSign(at, n < numbers ? ',' : ';') ? at + 1 : -2 - at;
                }
            }
            return at;
        }

        private boolean isSign(int at, char sign) {
            return at < length && signs[at] == sign;
        }

        private boolean isFigure(int at) {
            return at < length && signs[at] >= '0' && signs[at] <= '9';
        }

        /** Reads a number, or a - for NONE; answers the place behind it, or -2 less that of its fault. */
        private int readNumber(int from, boolean orNone, int[] task, int n) {
            if (orNone && isSign(from, '-')) {
                task[n] = NONE;
                return from + 1;
            }
            int at = from;
            while (at < from + MOST_FIGURES && isFigure(at)) {
                task[n] = task[n] * 10 + signs[at] - '0';
                at++;
            }
            return at > from ? at : -2 - from;
        }

        private static int kindOf(int letter) {
            switch (letter) {
                case 0: return ACT_PUT;
                case 1: return ACT_QUEUE;
                case 2: return ACT_WITHDRAW;
                case 3: return ACT_LOAD;
                case 4: return ACT_SEND;
                case 5: return ACT_DUMP;
                default: return ACT_CANCEL;
            }
        }

        private static int howManyNumbers(int kind) {
            if (kind == ACT_QUEUE) {
                return 4;
            }
            return kind == ACT_PUT || kind == ACT_LOAD || kind == ACT_SEND ? 2 : 1;
        }
    }

    /**
     * The RECORD, what can be undone, and the images. Acts are only ever added, each with the one ahead of it, so
     * that a market that was gone back to, or an image, keeps its RECORD by the number of its latest act alone.
     */
    private static final class Deeds {
        /** No call does more than one act for each call that told it, so 512 calls need no more. */
        private static final int MOST_ACTS = 520;

        private final int[][] acts = new int[MOST_ACTS][ACT_WIDE + 1];
        private final int[] chain = new int[MOST_ACTS];
        private final Hall nothing = new Hall();
        private final Hall[] before = {new Hall(), new Hall(), new Hall(), new Hall(),
            new Hall(), new Hall(), new Hall(), new Hall()};
        private final Hall[] images = {new Hall(), new Hall()};
        final boolean[] isKept = new boolean[SLOTS];
        private int many = 0;
        private int newest = 0;
        int undoable = 0;

        /** A DEED begins: what is can be gone back to. */
        void begin(Hall hall) {
            newest = (newest + 1) % UNDOABLE;
            before[newest].copy(hall);
            undoable = Math.min(UNDOABLE, undoable + 1);
            hall.of[DEEDS]++;
        }

        /** Puts an act of the DEED that began last into the RECORD. */
        void record(Hall hall, int[] act) {
            if (many >= MOST_ACTS) {
                return;
            }
            System.arraycopy(act, 0, acts[many], 0, ACT_WIDE);
            acts[many][ACT_WIDE] = hall.of[LATEST_ACT];
            hall.of[LATEST_ACT] = many;
            many++;
        }

        /** Undoes the latest DEED; answers how many can be undone yet. */
        int takeBack(Hall hall) {
            hall.copy(before[newest]);
            newest = (newest + UNDOABLE - 1) % UNDOABLE;
            undoable--;
            return undoable;
        }

        void keepImage(Hall hall, int slot) {
            images[slot].copy(hall);
            isKept[slot] = true;
        }

        void goOnFrom(Hall hall, int slot) {
            hall.copy(images[slot]);
            undoable = 0;
        }

        /** Whether the season worked anew, on a copy, is what is. */
        boolean leadTo(Hall hall, Hall anew) {
            int length = 0;
            int at = hall.of[LATEST_ACT];
            while (at >= 0 && at < many && length < MOST_ACTS) {
                chain[length] = at;
                length++;
                at = acts[at][ACT_WIDE];
            }
            anew.copy(nothing);
            for (int n = length - 1; n >= 0; n--) {
                anew.perform(acts[chain[n]]);
            }
            return anew.isLike(hall);
        }
    }
}
