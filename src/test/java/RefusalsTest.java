/**
 * Each "Throws" sentence of the document: the last value that is allowed and the first one that isn't, on both
 * sides; the empty and the full case; of several exceptions the one that is named first; and that a refused
 * call changes nothing: a hall that refused it goes on as one that was never asked.
 */
public final class RefusalsTest extends Checks {
    /** A hall as it stands ahead of a call; made anew for each. */
    private interface Start {
        Bloomclock made();
    }

    private interface Value {
        Object by(Bloomclock hall, int value);
    }

    private interface Plain {
        Object by(Bloomclock hall);
    }

    // ---- halls

    /**
     * Crops: 0 to 2 READY with 200 plants less what was CUT, 3 not. Lots: 0 to 3 HELD (30, 10, 20, 41 stems),
     * 4 and 5 in the ROW, 6 SOLD, 7 CLEARED. Buyers 0 and 1, orders 0 to 2, three sales on the rail.
     */
    private static Bloomclock busy() {
        Bloomclock hall = new Bloomclock();
        hall.grower();
        hall.grower();
        hall.plant(0, 0, 200);
        hall.plant(1, 1, 200);
        hall.plant(1, 2, 200);
        hall.pass(24, 5);
        hall.plant(1, 2, 50);
        int[][] cuts = {{0, 30}, {0, 10}, {1, 20}, {2, 41}, {0, 15}, {1, 25}, {2, 5}, {0, 7}};
        for (int[] each : cuts) {
            hall.cut(each[0], each[1]);
        }
        hall.buyer(3);
        hall.buyer(0);
        hall.order(0, 0, 2, 0, 0, 50, 12);
        hall.order(1, 1, 2, 10, 20, 44, 30);
        hall.order(1, 0, 1, 0, 0, 47, 9);
        hall.clear(7, true);
        hall.presell(6, 0, 5, 9);
        hall.presell(0, 1, 3, 8);
        hall.presell(3, 0, 21, 2);
        hall.bring(4, 80, 5);
        hall.bring(5, 50, 7);
        return hall;
    }

    private static Bloomclock busyAnHourLater() {
        Bloomclock hall = busy();
        hall.pass(1, 4);
        return hall;
    }

    /** As many as there can be of all that has a number: all LOTS have 1 stem, those of an odd number are in the ROW. */
    private static Bloomclock full() {
        Bloomclock hall = new Bloomclock();
        for (int i = 0; i < 4; i++) {
            hall.grower();
            hall.buyer(i);
        }
        for (int i = 0; i < 8; i++) {
            hall.plant(i % 4, i % 2, 200);
        }
        hall.pass(18, 5);
        for (int i = 0; i < 12; i++) {
            hall.order(i % 4, i % 3, 2, 0, 0, 30 + i, 5);
        }
        for (int i = 0; i < 16; i++) {
            hall.cut(i % 8, 21);
            hall.presell(i, i % 4, 20, 1);
        }
        for (int i = 1; i < 16; i += 2) {
            hall.bring(i, 20, 1);
        }
        return hall;
    }

    /** A POOL with so many buckets left (0 to 10), and a crop 7 that nothing was CUT of. */
    private static Bloomclock withPool(int left) {
        Bloomclock hall = new Bloomclock();
        hall.grower();
        for (int i = 0; i < 8; i++) {
            hall.plant(0, 0, 200);
        }
        hall.pass(12, 5);
        for (int i = 0; i < 5; i++) {
            hall.cut(i, 200);
        }
        if (left < 10) {
            hall.cut(5, 200 - 20 * left);
        }
        return hall;
    }

    private static Bloomclock withBuyer() {
        Bloomclock hall = withLot(60);
        hall.buyer(4);
        return hall;
    }

    /** A BUYER 0 that has paid so many times 1 for so many stems each. */
    private static Bloomclock withSales(int sales, int stems) {
        Bloomclock hall = withLot(200);
        hall.buyer(0);
        for (int i = 0; i < sales; i++) {
            hall.presell(0, 0, stems, 1);
        }
        return hall;
    }

    // ---- how they are checked

    /** All that a hall answers as it goes on, so that what no question tells shows, too. */
    private static String goesOn(Bloomclock hall) {
        Plain[] calls = {Bloomclock::digest, h -> h.speed(1), h -> h.speed(3), Bloomclock::undo, Bloomclock::clock,
            Bloomclock::digest, h -> h.presell(0, 0, 1, 1), h -> h.bring(0, 40, 3), Bloomclock::undo,
            h -> h.pass(2, 6), Bloomclock::digest, h -> h.bind(0, 2), h -> h.vote(0, 12), h -> h.cut(0, 3),
            Bloomclock::clock, Bloomclock::clock, Bloomclock::undo, h -> h.pass(22, 1), h -> h.plant(0, 2, 9),
            Bloomclock::digest, Bloomclock::meanPrice};
        StringBuilder told = new StringBuilder();
        for (Plain call : calls) {
            told.append(answer(() -> call.by(hall))).append(' ');
        }
        return told.toString();
    }

    private static void refused(String what, Start start, Class<?> due, Plain call) {
        Bloomclock hall = start.made();
        refuses(what, hall, due, () -> call.by(hall));
        is(what + ": it goes on as if that had not been asked", goesOn(hall), goesOn(start.made()));
    }

    private static void allowed(String what, Start start, Plain call) {
        Bloomclock hall = start.made();
        is(what + " is allowed", answer(() -> call.by(hall)).startsWith("throws"), false);
    }

    private static void refusedBelow(String what, Start start, Value call, int low, Class<?> due) {
        int[] below = {low - 1, low - 2, low - 20, Integer.MIN_VALUE, Integer.MIN_VALUE + 1};
        for (int value : below) {
            refused(what + " " + value, start, due, hall -> call.by(hall, value));
        }
    }

    private static void refusedAbove(String what, Start start, Value call, int high, Class<?> due) {
        int[] above = {high + 1, high + 2, high + 20, Integer.MAX_VALUE, Integer.MAX_VALUE - 1};
        for (int value : above) {
            refused(what + " " + value, start, due, hall -> call.by(hall, value));
        }
    }

    private static void allowedWithin(String what, Start start, Value call, int low, int high) {
        int[] within = {low, Math.min(low + 1, high), low + (high - low) / 2, Math.max(high - 1, low), high};
        for (int value : within) {
            allowed(what + " " + value, start, hall -> call.by(hall, value));
        }
    }

    private static void within(String what, Start start, Value call, int low, int high) {
        refusedBelow(what, start, call, low, WRONG);
        allowedWithin(what, start, call, low, high);
        refusedAbove(what, start, call, high, WRONG);
    }

    /** Numbers of things: there are so many of them; none of them on a new object. */
    private static void exists(String what, Start start, Value call, int many) {
        refusedBelow(what, start, call, 0, NO_SUCH);
        for (int value = 0; value < many; value++) {
            int each = value;
            allowed(what + " " + value, start, hall -> call.by(hall, each));
        }
        refusedAbove(what, start, call, many - 1, NO_SUCH);
        refusedAbove(what + " on a new object", Bloomclock::new, call, -1, NO_SUCH);
        refusedBelow(what + " on a new object", Bloomclock::new, call, 0, NO_SUCH);
    }

    // ---- growing

    private static void p2Grower() {
        for (int i = 0; i < 4; i++) {
            int many = i;
            allowed("grower behind " + i, () -> withGrowers(many), Bloomclock::grower);
        }
        refused("grower: there are 4", () -> withGrowers(4), REFUSED, Bloomclock::grower);
        refused("grower: there are 4, all is full", RefusalsTest::full, REFUSED, Bloomclock::grower);
    }

    private static Bloomclock withGrowers(int many) {
        Bloomclock hall = new Bloomclock();
        for (int i = 0; i < many; i++) {
            hall.grower();
        }
        return hall;
    }

    private static void p3Lamps() {
        exists("lamps: grower", RefusalsTest::busy, (hall, v) -> hall.lamps(v, 1), 2);
        exists("lamps: grower of 4", RefusalsTest::full, (hall, v) -> hall.lamps(v, 1), 4);
        within("lamps: lamps", RefusalsTest::busy, (hall, v) -> hall.lamps(1, v), 0, 3);
        refused("lamps: no grower ahead of lamps", RefusalsTest::busy, NO_SUCH, hall -> hall.lamps(2, 4));
        refused("lamps: no grower ahead of lamps", RefusalsTest::busy, NO_SUCH, hall -> hall.lamps(-1, -1));
    }

    private static void p4Plant() {
        exists("plant: grower", RefusalsTest::busy, (hall, v) -> hall.plant(v, 1, 1), 2);
        within("plant: cultivar", RefusalsTest::busy, (hall, v) -> hall.plant(0, v, 1), 0, 2);
        within("plant: plants", RefusalsTest::busy, (hall, v) -> hall.plant(0, 0, v), 1, 200);
        for (int i = 0; i < 8; i++) {
            int many = i;
            allowed("plant behind " + i, () -> withCrops(many), hall -> hall.plant(0, 0, 1));
        }
        refused("plant: there are 8", () -> withCrops(8), REFUSED, hall -> hall.plant(0, 0, 1));
        refused("plant: there are 8, all is full", RefusalsTest::full, REFUSED, hall -> hall.plant(3, 2, 200));
        refused("plant: no grower is first", RefusalsTest::full, NO_SUCH, hall -> hall.plant(4, 3, 0));
        refused("plant: no grower is ahead of a full hall", RefusalsTest::full, NO_SUCH, hall -> hall.plant(-1, 0, 1));
        refused("plant: cultivar is ahead of a full hall", RefusalsTest::full, WRONG, hall -> hall.plant(0, 3, 1));
        refused("plant: plants are ahead of a full hall", RefusalsTest::full, WRONG, hall -> hall.plant(0, 0, 201));
        refused("plant: plants are ahead of a full hall", RefusalsTest::full, WRONG, hall -> hall.plant(0, 0, 0));
    }

    private static Bloomclock withCrops(int many) {
        Bloomclock hall = withGrowers(1);
        for (int i = 0; i < many; i++) {
            hall.plant(0, 0, 1);
        }
        return hall;
    }

    private static void p5Cut() {
        exists("cut: crop", RefusalsTest::grown, (hall, v) -> hall.cut(v, 1), 3);
        refusedBelow("cut: stems", RefusalsTest::grown, (hall, v) -> hall.cut(0, v), 1, WRONG);
        allowedWithin("cut: stems", RefusalsTest::grown, (hall, v) -> hall.cut(0, v), 1, 200);
        refusedAbove("cut: it has less", RefusalsTest::grown, (hall, v) -> hall.cut(0, v), 200, REFUSED);
        refused("cut: it has none", RefusalsTest::cutDown, REFUSED, hall -> hall.cut(0, 1));
        refused("cut: it is not READY", RefusalsTest::busy, REFUSED, hall -> hall.cut(3, 1));
        refused("cut: it was never READY", () -> withCrops(1), REFUSED, hall -> hall.cut(0, 1));
        for (int i = 0; i < 16; i++) {
            int many = i;
            allowed("cut behind " + i, () -> withLots(many), hall -> hall.cut(0, 1));
        }
        refused("cut: there are 16 LOTS", () -> withLots(16), REFUSED, hall -> hall.cut(0, 1));
        refused("cut: there were 16 LOTS ever", RefusalsTest::allGone, REFUSED, hall -> hall.cut(0, 1));
        poolOfCut();
        refused("cut: no crop is first", RefusalsTest::full, NO_SUCH, hall -> hall.cut(8, 0));
        refused("cut: no crop is ahead of a full hall", RefusalsTest::full, NO_SUCH, hall -> hall.cut(-1, 1));
        refused("cut: stems are ahead of a full hall", RefusalsTest::full, WRONG, hall -> hall.cut(0, 0));
        refused("cut: stems are ahead of not READY", RefusalsTest::busy, WRONG, hall -> hall.cut(3, 0));
    }

    private static void poolOfCut() {
        for (int left = 0; left <= 10; left++) {
            int pool = left;
            int most = 20 * left;
            is("the POOL", withPool(left).many(8), left);
            if (left > 0) {
                allowed("cut: all of a POOL of " + left, () -> withPool(pool), hall -> hall.cut(7, most));
            }
            if (left < 10) {
                refused("cut: one bucket more than a POOL of " + left, () -> withPool(pool), REFUSED,
                        hall -> hall.cut(7, most + 1));
            }
        }
    }

    private static Bloomclock cutDown() {
        Bloomclock hall = grown();
        hall.cut(0, 200);
        return hall;
    }

    private static Bloomclock withLots(int many) {
        Bloomclock hall = withLot(1);
        for (int i = 1; i < many; i++) {
            hall.cut(0, 1);
        }
        return many == 0 ? grown() : hall;
    }

    private static Bloomclock allGone() {
        Bloomclock hall = withLots(16);
        hall.buyer(0);
        for (int i = 0; i < 8; i++) {
            hall.clear(i, false);
            hall.presell(i + 8, 0, 1, 1);
        }
        return hall;
    }

    private static void p6Move() {
        exists("move: lot", RefusalsTest::full, (hall, v) -> hall.move(v, 0), 16);
        exists("move: lot of 1", RefusalsTest::withBuyer, (hall, v) -> hall.move(v, 0), 1);
        within("move: place of one that is HELD", RefusalsTest::busy, (hall, v) -> hall.move(0, v), 0, 2);
        within("move: place of one in the ROW", RefusalsTest::busy, (hall, v) -> hall.move(4, v), 0, 2);
        refused("move: it is SOLD", RefusalsTest::busy, REFUSED, hall -> hall.move(6, 0));
        refused("move: it is CLEARED", RefusalsTest::busy, REFUSED, hall -> hall.move(7, 2));
        refused("move: place is ahead of SOLD", RefusalsTest::busy, WRONG, hall -> hall.move(6, 3));
        refused("move: place is ahead of CLEARED", RefusalsTest::busy, WRONG, hall -> hall.move(7, -1));
        refused("move: no lot is first", RefusalsTest::busy, NO_SUCH, hall -> hall.move(8, 3));
    }

    private static void p7Pass() {
        within("pass: hours", RefusalsTest::busy, (hall, v) -> hall.pass(v, 3), 1, 48);
        within("pass: light", RefusalsTest::busy, (hall, v) -> hall.pass(1, v), 0, 9);
        within("pass: hours of a new object", Bloomclock::new, (hall, v) -> hall.pass(v, 0), 1, 48);
        refused("pass: neither", RefusalsTest::busy, WRONG, hall -> hall.pass(0, 10));
    }

    // ---- the hall

    private static void p8Bring() {
        exists("bring: lot", () -> withLots(16), (hall, v) -> hall.bring(v, 1, 1), 16);
        within("bring: told", RefusalsTest::busy, (hall, v) -> hall.bring(0, v, 9), 0, 110);
        within("bring: minimum", RefusalsTest::busy, (hall, v) -> hall.bring(0, 9, v), 1, 99);
        for (int lot = 4; lot <= 7; lot++) {
            int each = lot;
            refused("bring: it is not HELD", RefusalsTest::busy, REFUSED, hall -> hall.bring(each, 9, 9));
            refused("bring: told is ahead of not HELD", RefusalsTest::busy, WRONG, hall -> hall.bring(each, 111, 9));
            refused("bring: minimum is ahead of not HELD", RefusalsTest::busy, WRONG, hall -> hall.bring(each, 9, 0));
        }
        allowed("bring: just the QUOTA", () -> withQuota(60), hall -> hall.bring(0, 9, 9));
        refused("bring: one above the QUOTA", () -> withQuota(59), REFUSED, hall -> hall.bring(0, 9, 9));
        refused("bring: told is ahead of the QUOTA", () -> withQuota(59), WRONG, hall -> hall.bring(0, -1, 9));
        refused("bring: minimum is ahead of the QUOTA", () -> withQuota(0), WRONG, hall -> hall.bring(0, 9, 100));
        refused("bring: no lot is first", RefusalsTest::busy, NO_SUCH, hall -> hall.bring(8, 111, 100));
    }

    private static Bloomclock withQuota(int quota) {
        Bloomclock hall = withBuyer();
        hall.vote(0, quota);
        return hall;
    }

    private static void p9Inspect() {
        exists("inspect: lot", RefusalsTest::twoInTheRow, (hall, v) -> hall.inspect(v), 2);
        refused("inspect: it is HELD", RefusalsTest::busy, REFUSED, hall -> hall.inspect(0));
        allowed("inspect: it is the first of the ROW", RefusalsTest::busy, hall -> hall.inspect(4));
        allowed("inspect: it is the last of the ROW", RefusalsTest::busy, hall -> hall.inspect(5));
        refused("inspect: it is SOLD", RefusalsTest::busy, REFUSED, hall -> hall.inspect(6));
        refused("inspect: it is CLEARED", RefusalsTest::busy, REFUSED, hall -> hall.inspect(7));
        refused("inspect: it is HELD again", RefusalsTest::heldAgain, REFUSED, hall -> hall.inspect(0));
    }

    private static Bloomclock twoInTheRow() {
        Bloomclock hall = withLots(2);
        hall.bring(1, 9, 9);
        hall.bring(0, 9, 9);
        return hall;
    }

    private static Bloomclock heldAgain() {
        Bloomclock hall = withBuyer();
        hall.bring(0, 9, 9);
        hall.clock();
        return hall;
    }

    private static void p10Buyer() {
        within("buyer: latency", RefusalsTest::busy, (hall, v) -> hall.buyer(v), 0, 9);
        within("buyer: latency of the first", Bloomclock::new, (hall, v) -> hall.buyer(v), 0, 9);
        for (int i = 0; i < 4; i++) {
            int many = i;
            allowed("buyer behind " + i, () -> withBuyers(many), hall -> hall.buyer(1));
        }
        refused("buyer: there are 4", () -> withBuyers(4), REFUSED, hall -> hall.buyer(0));
        refused("buyer: there are 4, all is full", RefusalsTest::full, REFUSED, hall -> hall.buyer(9));
        refused("buyer: latency is first", RefusalsTest::full, WRONG, hall -> hall.buyer(10));
        refused("buyer: latency is first", RefusalsTest::full, WRONG, hall -> hall.buyer(-1));
    }

    private static Bloomclock withBuyers(int many) {
        Bloomclock hall = withLot(100);
        for (int i = 0; i < many; i++) {
            hall.buyer(i);
        }
        return hall;
    }

    private static void p11Even() {
        exists("even: buyer", RefusalsTest::busy, (hall, v) -> hall.even(v, 1), 2);
        exists("even: buyer of 4", RefusalsTest::full, (hall, v) -> hall.even(v, 1), 4);
        within("even: much", RefusalsTest::busy, (hall, v) -> hall.even(0, v), 0, 9);
        refused("even: no buyer is first", RefusalsTest::busy, NO_SUCH, hall -> hall.even(2, 10));
        refused("even: no buyer is first", RefusalsTest::busy, NO_SUCH, hall -> hall.even(-1, -1));
    }

    private static void p12Leave() {
        exists("leave: buyer", RefusalsTest::busy, (hall, v) -> hall.leave(v, 1), 2);
        exists("leave: buyer of 4", RefusalsTest::full, (hall, v) -> hall.leave(v, 1), 4);
        within("leave: hour", RefusalsTest::busy, (hall, v) -> hall.leave(0, v), -1, 9999);
        refused("leave: no buyer is first", RefusalsTest::busy, NO_SUCH, hall -> hall.leave(2, 10000));
        refused("leave: no buyer is first", RefusalsTest::busy, NO_SUCH, hall -> hall.leave(-1, -2));
    }

    private static void p13Order() {
        exists("order: buyer", RefusalsTest::busy, (hall, v) -> hall.order(v, 0, 0, 0, 0, 1, 1), 2);
        int[][] ranges = {{0, 2}, {0, 2}, {0, 110}, {0, 100}, {1, 99}, {1, 500}};
        String[] names = {"cultivar", "grade", "shown", "mark", "limit", "stems"};
        for (int i = 0; i < 6; i++) {
            int place = i;
            int above = ranges[i][1] + 1;
            int below = ranges[i][0] - 1;
            within("order: " + names[i], RefusalsTest::busy, (hall, v) -> ordered(hall, 0, place, v),
                    ranges[i][0], ranges[i][1]);
            refused("order: no buyer is ahead of " + names[i], RefusalsTest::busy, NO_SUCH,
                    hall -> ordered(hall, 2, place, above));
            refused("order: " + names[i] + " is ahead of a full hall", RefusalsTest::full, WRONG,
                    hall -> ordered(hall, 0, place, above));
            refused("order: " + names[i] + " is ahead of a full hall", RefusalsTest::full, WRONG,
                    hall -> ordered(hall, 0, place, below));
        }
        for (int i = 0; i < 12; i++) {
            int many = i;
            allowed("order behind " + i, () -> withOrders(many), hall -> hall.order(0, 0, 0, 0, 0, 1, 1));
        }
        refused("order: there are 12", () -> withOrders(12), REFUSED, hall -> hall.order(0, 0, 0, 0, 0, 1, 1));
        refused("order: no buyer is ahead of a full hall", RefusalsTest::full, NO_SUCH,
                hall -> hall.order(4, 0, 0, 0, 0, 1, 1));
    }

    /** An ORDER of the BUYER with one wrong or outermost argument behind it. */
    private static int ordered(Bloomclock hall, int buyer, int place, int value) {
        int[] a = {1, 1, 50, 50, 50, 50};
        a[place] = value;
        return hall.order(buyer, a[0], a[1], a[2], a[3], a[4], a[5]);
    }

    private static Bloomclock withOrders(int many) {
        Bloomclock hall = withBuyer();
        for (int i = 0; i < many; i++) {
            order(hall, 0, 9 + i, 1);
        }
        return hall;
    }

    private static void p14Clock() {
        refused("clock: a new object", Bloomclock::new, REFUSED, Bloomclock::clock);
        refused("clock: no LOT was BROUGHT", RefusalsTest::withBuyer, REFUSED, Bloomclock::clock);
        refused("clock: the ROW is empty again", RefusalsTest::heldAgain, REFUSED, Bloomclock::clock);
        allowed("clock: one LOT in the ROW", () -> {
            Bloomclock hall = withLot(1);
            hall.bring(0, 1, 1);
            return hall;
        }, Bloomclock::clock);
    }

    private static void p15Presell() {
        exists("presell: lot", () -> withLotsAndBuyers(16), (hall, v) -> hall.presell(v, 0, 1, 1), 16);
        exists("presell: buyer", () -> withBuyers(4), (hall, v) -> hall.presell(0, v, 1, 1), 4);
        refusedBelow("presell: stems", RefusalsTest::busy, (hall, v) -> hall.presell(0, 0, v, 1), 1, WRONG);
        allowedWithin("presell: stems", RefusalsTest::busy, (hall, v) -> hall.presell(0, 0, v, 1), 1, 27);
        refusedAbove("presell: it has less", RefusalsTest::busy, (hall, v) -> hall.presell(0, 0, v, 1), 27, REFUSED);
        within("presell: price", RefusalsTest::busy, (hall, v) -> hall.presell(0, 0, 1, v), 1, 99);
        for (int lot = 4; lot <= 7; lot++) {
            int each = lot;
            refused("presell: it is not HELD", RefusalsTest::busy, REFUSED, hall -> hall.presell(each, 0, 1, 1));
            refused("presell: stems are first", RefusalsTest::busy, WRONG, hall -> hall.presell(each, 0, 0, 1));
            refused("presell: price is first", RefusalsTest::busy, WRONG, hall -> hall.presell(each, 0, 1, 100));
        }
        coinsOfPresell();
        refused("presell: no lot is first", RefusalsTest::busy, NO_SUCH, hall -> hall.presell(8, 0, 0, 0));
        refused("presell: no buyer is first", RefusalsTest::busy, NO_SUCH, hall -> hall.presell(0, 2, 0, 0));
        refused("presell: no buyer is ahead of not HELD", RefusalsTest::busy, NO_SUCH,
                hall -> hall.presell(4, 2, 1, 1));
        refused("presell: stems are ahead of coins", RefusalsTest::busy, WRONG, hall -> hall.presell(0, 0, -1, 99));
        refused("presell: price is ahead of coins", RefusalsTest::busy, WRONG, hall -> hall.presell(0, 0, 30, 100));
    }

    private static void coinsOfPresell() {
        allowed("presell: all 2000 COINS", () -> withBuyers(1), hall -> hall.presell(0, 0, 50, 40));
        refused("presell: 2001 COINS", () -> withBuyers(1), REFUSED, hall -> hall.presell(0, 0, 29, 69));
        refused("presell: more COINS", () -> withBuyers(1), REFUSED, hall -> hall.presell(0, 0, 100, 99));
        int[] bought = {7, 8, 9};
        for (int stems : bought) {
            int coins = 16 - 2 * stems;
            Start start = () -> withCoins(stems);
            is("its COINS", start.made().ofBuyer(0, 0), coins);
            if (coins > 0) {
                allowed("presell: all its " + coins + " COINS", start, hall -> hall.presell(0, 0, 1, coins));
                allowed("presell: all its " + coins + " COINS", start, hall -> hall.presell(0, 0, coins, 1));
            }
            int more = Math.max(1, coins + 1);
            refused("presell: more than " + coins + " COINS", start, REFUSED, hall -> hall.presell(0, 0, 1, more));
            refused("presell: more than " + coins + " COINS", start, REFUSED, hall -> hall.presell(0, 0, more, 1));
        }
    }

    /** A BUYER with 16 COINS less 2 times so many stems that it bought: 2000 - 1980 - 2 - 2. */
    private static Bloomclock withCoins(int stems) {
        Bloomclock hall = withBuyers(1);
        hall.presell(0, 0, 20, 99);
        hall.presell(0, 0, stems, 2);
        return hall;
    }

    private static Bloomclock withLotsAndBuyers(int many) {
        Bloomclock hall = withLots(many);
        hall.buyer(0);
        return hall;
    }

    private static void p16Undo() {
        refused("undo: a new object", Bloomclock::new, REFUSED, Bloomclock::undo);
        refused("undo: no SALE", RefusalsTest::withBuyer, REFUSED, Bloomclock::undo);
        allowed("undo: in its HOUR", RefusalsTest::busy, Bloomclock::undo);
        refused("undo: an HOUR later", RefusalsTest::busyAnHourLater, REFUSED, Bloomclock::undo);
        refused("undo: that SALE is UNDONE", () -> undone(1, 1), REFUSED, Bloomclock::undo);
        refused("undo: its LOT is CLEARED", RefusalsTest::soldAndCleared, REFUSED, Bloomclock::undo);
        allowed("undo: the last one that is kept", () -> undone(21, 19), Bloomclock::undo);
        refused("undo: no SALE is kept any more", () -> undone(21, 20), REFUSED, Bloomclock::undo);
        refused("undo: one BUCKET less than it got", () -> withSalesAndBack(1, 40, 1), REFUSED, Bloomclock::undo);
        refused("undo: no BUCKET of two", () -> withSalesAndBack(1, 40, 2), REFUSED, Bloomclock::undo);
        allowed("undo: one BUCKET of two SALES", () -> withSalesAndBack(2, 5, 1), Bloomclock::undo);
        refused("undo: no BUCKET of two SALES", () -> withSalesAndBack(2, 5, 2), REFUSED, Bloomclock::undo);
        allowed("undo: it got no BUCKET", RefusalsTest::soldWithoutBuckets, Bloomclock::undo);
    }

    private static Bloomclock undone(int sales, int undone) {
        Bloomclock hall = withSales(sales, 1);
        for (int i = 0; i < undone; i++) {
            hall.undo();
        }
        return hall;
    }

    private static Bloomclock soldAndCleared() {
        Bloomclock hall = withSales(1, 20);
        hall.clear(0, false);
        return hall;
    }

    private static Bloomclock withSalesAndBack(int sales, int stems, int back) {
        Bloomclock hall = withSales(sales, stems);
        hall.back(0, back);
        return hall;
    }

    /** The LOT has 2 BUCKETS: they go with the first two SALES of a stem, and come back. */
    private static Bloomclock soldWithoutBuckets() {
        Bloomclock hall = withLot(21);
        hall.buyer(0);
        hall.presell(0, 0, 1, 1);
        hall.presell(0, 0, 1, 1);
        hall.presell(0, 0, 19, 1);
        hall.back(0, 2);
        return hall;
    }

    private static void p17Speed() {
        within("speed", RefusalsTest::busy, (hall, v) -> hall.speed(v), 1, 9);
        within("speed of a new object", Bloomclock::new, (hall, v) -> hall.speed(v), 1, 9);
    }

    private static void p18Bind() {
        exists("bind: buyer", RefusalsTest::busyAnHourLater, (hall, v) -> hall.bind(v, 1), 2);
        exists("bind: buyer of 4", RefusalsTest::full, (hall, v) -> hall.bind(v, 1), 4);
        within("bind: many", RefusalsTest::withStock, (hall, v) -> hall.bind(0, v), 1, 99);
        refused("bind: no buyer is first", RefusalsTest::busy, NO_SUCH, hall -> hall.bind(2, 0));
        refused("bind: no buyer is first", RefusalsTest::busy, NO_SUCH, hall -> hall.bind(-1, 100));
    }

    private static Bloomclock withStock() {
        Bloomclock hall = withSales(2, 9);
        hall.pass(1, 0);
        return hall;
    }

    private static void p19Back() {
        exists("back: buyer", () -> bucketsOfEach(), (hall, v) -> hall.back(v, 1), 4);
        refusedBelow("back: many", RefusalsTest::busy, (hall, v) -> hall.back(0, v), 1, WRONG);
        allowedWithin("back: many", RefusalsTest::busy, (hall, v) -> hall.back(0, v), 1, 3);
        refusedAbove("back: it has less", RefusalsTest::busy, (hall, v) -> hall.back(0, v), 3, REFUSED);
        refused("back: it has none", RefusalsTest::withBuyer, REFUSED, hall -> hall.back(0, 1));
        refused("back: all are back", () -> withSalesAndBack(1, 40, 2), REFUSED, hall -> hall.back(0, 1));
        refused("back: no buyer is first", RefusalsTest::busy, NO_SUCH, hall -> hall.back(2, 0));
        refused("back: many is ahead of what it has", RefusalsTest::withBuyer, WRONG, hall -> hall.back(0, 0));
    }

    private static Bloomclock bucketsOfEach() {
        Bloomclock hall = withBuyers(4);
        for (int i = 0; i < 4; i++) {
            hall.presell(0, i, 1, 1);
        }
        return hall;
    }

    private static void p20Clear() {
        exists("clear: lot", () -> withLots(16), (hall, v) -> hall.clear(v, true), 16);
        for (int lot = 4; lot <= 7; lot++) {
            int each = lot;
            refused("clear: it is not HELD", RefusalsTest::busy, REFUSED, hall -> hall.clear(each, false));
            refused("clear: it is not HELD", RefusalsTest::busy, REFUSED, hall -> hall.clear(each, true));
        }
        allowed("clear: it is HELD again", RefusalsTest::heldAgain, hall -> hall.clear(0, true));
    }

    private static void p21Vote() {
        int[] none = {-1, -2, Integer.MIN_VALUE, 3, 4, Integer.MAX_VALUE};
        for (int cultivar : none) {
            refused("vote: cultivar " + cultivar, RefusalsTest::busy, NO_SUCH, hall -> hall.vote(cultivar, 1));
            refused("vote: cultivar is first", RefusalsTest::busy, NO_SUCH, hall -> hall.vote(cultivar, 1000));
            refused("vote: cultivar is first", RefusalsTest::busy, NO_SUCH, hall -> hall.vote(cultivar, -1));
            refused("vote: without GROWERS", Bloomclock::new, NO_SUCH, hall -> hall.vote(cultivar, 1));
        }
        allowedWithin("vote: cultivar", RefusalsTest::busy, (hall, v) -> hall.vote(v, 1), 0, 2);
        within("vote: quota", RefusalsTest::busy, (hall, v) -> hall.vote(0, v), 0, 999);
        within("vote: quota without GROWERS", Bloomclock::new, (hall, v) -> hall.vote(2, v), 0, 999);
    }

    // ---- what is asked

    private static void p22To25() {
        exists("ofCrop: crop", RefusalsTest::full, (hall, v) -> hall.ofCrop(v, 0), 8);
        within("ofCrop: what", RefusalsTest::busy, (hall, v) -> hall.ofCrop(3, v), 0, 5);
        refused("ofCrop: no crop is first", RefusalsTest::busy, NO_SUCH, hall -> hall.ofCrop(4, 6));
        exists("ofLot: lot", RefusalsTest::full, (hall, v) -> hall.ofLot(v, 0), 16);
        exists("ofLot: lot in each STATE", RefusalsTest::busy, (hall, v) -> hall.ofLot(v, 7), 8);
        within("ofLot: what", RefusalsTest::busy, (hall, v) -> hall.ofLot(7, v), 0, 9);
        refused("ofLot: no lot is first", RefusalsTest::busy, NO_SUCH, hall -> hall.ofLot(8, 10));
        exists("ofGrower: grower", RefusalsTest::full, (hall, v) -> hall.ofGrower(v, 0), 4);
        within("ofGrower: what", RefusalsTest::busy, (hall, v) -> hall.ofGrower(1, v), 0, 4);
        refused("ofGrower: no grower is first", RefusalsTest::busy, NO_SUCH, hall -> hall.ofGrower(2, 5));
        exists("ofBuyer: buyer", RefusalsTest::full, (hall, v) -> hall.ofBuyer(v, 0), 4);
        within("ofBuyer: what", RefusalsTest::busy, (hall, v) -> hall.ofBuyer(1, v), 0, 8);
        refused("ofBuyer: no buyer is first", RefusalsTest::busy, NO_SUCH, hall -> hall.ofBuyer(2, 9));
    }

    private static void p26To29() {
        exists("wants: order", RefusalsTest::full, (hall, v) -> hall.wants(v), 12);
        exists("wants: order of 3", RefusalsTest::busy, (hall, v) -> hall.wants(v), 3);
        exists("sale: k of 3", RefusalsTest::busy, (hall, v) -> hall.sale(v, 0), 3);
        exists("sale: k of 19", () -> withSales(19, 1), (hall, v) -> hall.sale(v, 0), 19);
        exists("sale: k of 20", () -> withSales(20, 1), (hall, v) -> hall.sale(v, 0), 20);
        exists("sale: k of 21", () -> withSales(21, 1), (hall, v) -> hall.sale(v, 0), 20);
        exists("sale: k of 21, one is UNDONE", () -> undone(21, 1), (hall, v) -> hall.sale(v, 0), 19);
        exists("sale: k of 1, it is UNDONE", () -> undone(1, 1), (hall, v) -> hall.sale(v, 0), 0);
        within("sale: what", RefusalsTest::busy, (hall, v) -> hall.sale(2, v), 0, 4);
        refused("sale: no such one is first", RefusalsTest::busy, NO_SUCH, hall -> hall.sale(3, 5));
        refused("sale: no such one is first", RefusalsTest::busy, NO_SUCH, hall -> hall.sale(-1, -1));
        refusedBelow("row: k", RefusalsTest::busy, (hall, v) -> hall.row(v), 0, WRONG);
        allowedWithin("row: k", RefusalsTest::busy, (hall, v) -> hall.row(v), 0, Integer.MAX_VALUE);
        refusedBelow("row: k of an empty ROW", Bloomclock::new, (hall, v) -> hall.row(v), 0, WRONG);
        within("many: what", RefusalsTest::busy, (hall, v) -> hall.many(v), 0, 15);
        within("many: what of a new object", Bloomclock::new, (hall, v) -> hall.many(v), 0, 15);
    }

    /** Of all that can be asked, and of what would be, nothing changes anything. */
    private static void questionsChangeNothing() {
        Plain[] questions = {h -> h.ofCrop(3, 3), h -> h.ofLot(4, 8), h -> h.ofGrower(1, 4), h -> h.ofBuyer(1, 7),
            h -> h.wants(2), h -> h.sale(2, 2), h -> h.row(1), h -> h.many(15), Bloomclock::meanPrice,
            h -> h.wouldFetch(0), h -> h.wouldFetch(4), h -> h.bestMinimum(0), h -> h.bestMinimum(5),
            h -> h.readyIn(3), h -> h.lampsFor(2, 12), Bloomclock::digest};
        for (Plain question : questions) {
            Bloomclock hall = busy();
            String first = answer(() -> question.by(hall));
            is("what is asked twice", answer(() -> question.by(hall)), first);
            is("it goes on as if that had not been asked", goesOn(hall), goesOn(busy()));
        }
    }

    // ---- what would be

    private static void p31To34() {
        exists("wouldFetch: lot", RefusalsTest::full, (hall, v) -> hall.wouldFetch(v), 16);
        exists("wouldFetch: lot in each STATE", RefusalsTest::busy, (hall, v) -> hall.wouldFetch(v), 8);
        exists("bestMinimum: lot", RefusalsTest::full, (hall, v) -> hall.bestMinimum(v), 16);
        exists("bestMinimum: lot in each STATE", RefusalsTest::busy, (hall, v) -> hall.bestMinimum(v), 8);
        exists("readyIn: crop", RefusalsTest::full, (hall, v) -> hall.readyIn(v), 8);
        exists("readyIn: crop, READY or not", RefusalsTest::busy, (hall, v) -> hall.readyIn(v), 4);
        int[] none = {-1, -2, Integer.MIN_VALUE, 3, 4, Integer.MAX_VALUE};
        for (int cultivar : none) {
            refused("lampsFor: cultivar " + cultivar, Bloomclock::new, NO_SUCH, hall -> hall.lampsFor(cultivar, 1));
            refused("lampsFor: cultivar is first", RefusalsTest::busy, NO_SUCH, hall -> hall.lampsFor(cultivar, 0));
            refused("lampsFor: cultivar is first", RefusalsTest::busy, NO_SUCH, hall -> hall.lampsFor(cultivar, 201));
        }
        allowedWithin("lampsFor: cultivar", RefusalsTest::busy, (hall, v) -> hall.lampsFor(v, 9), 0, 2);
        within("lampsFor: hours", RefusalsTest::busy, (hall, v) -> hall.lampsFor(2, v), 1, 200);
    }

    public static void main(String[] args) {
        p2Grower();
        p3Lamps();
        p4Plant();
        p5Cut();
        p6Move();
        p7Pass();
        p8Bring();
        p9Inspect();
        p10Buyer();
        p11Even();
        p12Leave();
        p13Order();
        p14Clock();
        p15Presell();
        p16Undo();
        p17Speed();
        p18Bind();
        p19Back();
        p20Clear();
        p21Vote();
        p22To25();
        p26To29();
        p31To34();
        questionsChangeNothing();
        ends();
    }
}
