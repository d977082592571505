import java.lang.reflect.Method;

/** The document's promises, sentence by sentence: the second part of DocumentTest. */
abstract class DocumentPromises extends Document {
    private static void promise(int number, String name, String face) {
        tells("## Promise " + number + ": " + name);
        says("`" + face + "`:");
        int found = 0;
        for (Method method : Bloomclock.class.getMethods()) {
            found += FaceTest.written(method).equals("public " + FaceTest.withoutNames(face)) ? 1 : 0;
        }
        is("methods of that face", found, 1);
    }

    /** A hall at HOUR 24 with LOTS 0, 1, 2 of 40, 41, 42 STEMS of the CULTIVARS 0, 1, 2, and BUYERS 0 and 1. */
    private static Bloomclock withThreeLots() {
        Bloomclock hall = grown();
        for (int cultivar = 0; cultivar < 3; cultivar++) {
            hall.cut(cultivar, 40 + cultivar);
        }
        hall.buyer(0);
        hall.buyer(0);
        return hall;
    }

    // ---- growing

    private static void p1To3() {
        tells("## Promise 1: A new object");
        says("`Bloomclock()`: Creates a hall without GROWERS.");
        is("GROWERS", new Bloomclock().many(1), 0);
        are("all of a new one", i -> new Bloomclock().many(i), 0, 0, 0, 0, 0, 0, 0, 0, 60, 0, 0, 0, 500, 500, 500, -1);

        promise(2, "grower", "int grower() throws IllegalStateException");
        says("Tells a GROWER.");
        Bloomclock hall = new Bloomclock();
        hall.grower();
        is("one", hall.many(1), 1);
        are("as it is told", i -> hall.ofGrower(0, i), 100, 0, 50, 0, 0);
        says("Returns its number.");
        is("its number", hall.grower(), 1);
        is("its number", hall.grower(), 2);
        is("its number", hall.grower(), 3);
        says("Throws `IllegalStateException` if there are 4");
        refuses("a fifth one", hall, REFUSED, hall::grower);

        promise(3, "lamps",
                "int lamps(int grower, int lamps) throws IndexOutOfBoundsException, IllegalArgumentException");
        says("Tells LAMPS.");
        hall.lamps(2, 3);
        is("LAMPS", hall.ofGrower(2, 1), 3);
        says("- `grower`: the GROWER");
        is("not of another one", hall.ofGrower(1, 1), 0);
        says("- `lamps`: its LAMPS");
        for (int lamps = 0; lamps <= 3; lamps++) {
            hall.lamps(1, lamps);
            is("so many", hall.ofGrower(1, 1), lamps);
        }
        says("Returns those before.");
        is("3 before", hall.lamps(1, 2), 3);
        is("2 before", hall.lamps(1, 2), 2);
        says("Throws `IndexOutOfBoundsException` if there is no such GROWER");
        refuses("GROWER 4", hall, NO_SUCH, () -> hall.lamps(4, 1));
        refuses("GROWER -1", hall, NO_SUCH, () -> hall.lamps(-1, 1));
        says("Throws `IllegalArgumentException` if lamps is not 0 to 3");
        refuses("-1", hall, WRONG, () -> hall.lamps(0, -1));
        refuses("4", hall, WRONG, () -> hall.lamps(0, 4));
    }

    private static void p4Plant() {
        promise(4, "plant", "int plant(int grower, int cultivar, int plants) throws IndexOutOfBoundsException, "
                + "IllegalArgumentException, IllegalStateException");
        Bloomclock hall = new Bloomclock();
        hall.grower();
        hall.grower();
        says("Plants a CROP.");
        hall.plant(1, 2, 200);
        is("a CROP", hall.many(2), 1);
        says("- `grower`: its GROWER - `cultivar`: its CULTIVAR - `plants`: its PLANTS");
        are("GROWER, CULTIVAR, PLANTS", i -> hall.ofCrop(0, i), 1, 2, 200);
        says("Returns its number.");
        is("its number", hall.plant(0, 1, 1), 1);
        are("GROWER, CULTIVAR, PLANTS", i -> hall.ofCrop(1, i), 0, 1, 1);
        says("Throws `IndexOutOfBoundsException` if there is no such GROWER");
        refuses("GROWER 2", hall, NO_SUCH, () -> hall.plant(2, 0, 1));
        refuses("GROWER -1", hall, NO_SUCH, () -> hall.plant(-1, 0, 1));
        says("Throws `IllegalArgumentException` if cultivar is not 0 to 2, or plants not 1 to 200");
        refuses("CULTIVAR -1", hall, WRONG, () -> hall.plant(0, -1, 1));
        refuses("CULTIVAR 3", hall, WRONG, () -> hall.plant(0, 3, 1));
        refuses("no PLANTS", hall, WRONG, () -> hall.plant(0, 0, 0));
        refuses("201 PLANTS", hall, WRONG, () -> hall.plant(0, 0, 201));
        says("Throws `IllegalStateException` if there are 8");
        for (int i = 2; i < 8; i++) {
            does("CROP " + i, () -> hall.plant(0, 0, 1));
        }
        refuses("a ninth one", hall, REFUSED, () -> hall.plant(0, 0, 1));
    }

    private static void p5Cut() {
        promise(5, "cut", "int cut(int crop, int stems) throws IndexOutOfBoundsException, "
                + "IllegalArgumentException, IllegalStateException");
        Bloomclock hall = grown();
        says("CUTS.");
        hall.cut(2, 30);
        is("a LOT", hall.many(3), 1);
        says("- `crop`: the CROP");
        is("of its CULTIVAR", hall.ofLot(0, 1), 2);
        is("PLANTS of it", hall.ofCrop(2, 2), 170);
        is("PLANTS of another one", hall.ofCrop(0, 2), 200);
        says("- `stems`: how many");
        is("so many", hall.ofLot(0, 2), 30);
        says("Returns the LOT.");
        is("the next one", hall.cut(0, 1), 1);
        is("of the CROP", hall.ofLot(1, 1), 0);
        says("Throws `IndexOutOfBoundsException` if there is no such CROP");
        refuses("CROP 3", hall, NO_SUCH, () -> hall.cut(3, 1));
        refuses("CROP -1", hall, NO_SUCH, () -> hall.cut(-1, 1));
        says("Throws `IllegalArgumentException` if stems is below 1");
        refuses("0", hall, WRONG, () -> hall.cut(0, 0));
        refuses("below 0", hall, WRONG, () -> hall.cut(0, Integer.MIN_VALUE));
        says("Throws `IllegalStateException` if it is not READY, has less, there are 16 LOTS, or not so many "
                + "BUCKETS in the POOL");
        hall.plant(0, 0, 50);
        refuses("not READY", hall, REFUSED, () -> hall.cut(3, 1));
        refuses("one less", hall, REFUSED, () -> hall.cut(0, 200));
        does("just as many", () -> hall.cut(0, 199));
        refuses("none", hall, REFUSED, () -> hall.cut(0, 1));
        Bloomclock pool = new Bloomclock();
        pool.grower();
        for (int i = 0; i < 8; i++) {
            pool.plant(0, 0, 200);
        }
        pool.pass(12, 5);
        for (int i = 0; i < 5; i++) {
            pool.cut(i, 200);
        }
        pool.cut(5, 20);
        refuses("10 of 9 BUCKETS", pool, REFUSED, () -> pool.cut(6, 181));
        does("9 of 9 BUCKETS", () -> pool.cut(6, 180));
        refuses("1 of none", pool, REFUSED, () -> pool.cut(6, 1));
        Bloomclock lots = withLot(1);
        for (int i = 1; i < 16; i++) {
            lots.cut(0, 1);
        }
        refuses("16 LOTS", lots, REFUSED, () -> lots.cut(0, 1));
    }

    private static void p6Move() {
        promise(6, "move", "int move(int lot, int place) throws IndexOutOfBoundsException, "
                + "IllegalArgumentException, IllegalStateException");
        Bloomclock hall = withThreeLots();
        says("Moves a LOT.");
        hall.move(1, 2);
        is("moved", hall.ofLot(1, 6), 2);
        says("- `lot`: the LOT");
        is("not another one", hall.ofLot(0, 6), 1);
        says("- `place`: its PLACE");
        for (int place = 0; place < 3; place++) {
            hall.move(0, place);
            is("its PLACE", hall.ofLot(0, 6), place);
        }
        says("Returns that before.");
        is("2 before", hall.move(0, 0), 2);
        is("0 before", hall.move(0, 0), 0);
        says("Throws `IndexOutOfBoundsException` if there is no such LOT");
        refuses("LOT 3", hall, NO_SUCH, () -> hall.move(3, 0));
        refuses("LOT -1", hall, NO_SUCH, () -> hall.move(-1, 0));
        says("Throws `IllegalArgumentException` if place is not 0 to 2");
        refuses("-1", hall, WRONG, () -> hall.move(0, -1));
        refuses("3", hall, WRONG, () -> hall.move(0, 3));
        says("Throws `IllegalStateException` if it is SOLD or CLEARED");
        hall.presell(0, 0, 40, 1);
        hall.clear(1, false);
        hall.bring(2, 1, 1);
        refuses("SOLD", hall, REFUSED, () -> hall.move(0, 0));
        refuses("CLEARED", hall, REFUSED, () -> hall.move(1, 0));
        does("in the ROW", () -> hall.move(2, 0));
    }

    private static void p7Pass() {
        promise(7, "pass", "int pass(int hours, int light) throws IllegalArgumentException");
        Bloomclock hall = withThreeLots();
        says("Lets HOURS pass.");
        hall.pass(3, 5);
        is("HOUR", hall.many(0), 27);
        says("- `hours`: how many");
        hall.pass(48, 5);
        is("HOUR", hall.many(0), 75);
        hall.pass(1, 5);
        is("HOUR", hall.many(0), 76);
        says("- `light`: the LIGHT of each, from now on");
        hall.plant(0, 2, 1);
        hall.pass(4, 7);
        is("of each", hall.ofCrop(3, 3), 28);
        is("from now on: 92 / 7", hall.readyIn(3), 14);
        is("from now on: 126 by 18 HOURS", hall.lampsFor(2, 18), 0);
        says("Returns how many TROLLEYS were brought (MISSED ones, too).");
        is("none", hall.pass(1, 0), 0);
        for (int i = 0; i < 5; i++) {
            hall.presell(0, i % 2, 1, 1);
        }
        hall.leave(1, 3);
        is("two in an HOUR, MISSED ones", hall.pass(1, 0), 2);
        is("WASTE", hall.many(10), 2);
        is("the rest", hall.pass(9, 0), 3);
        is("none", hall.pass(9, 0), 0);
        says("Throws `IllegalArgumentException` if hours is not 1 to 48, or light not 0 to 9");
        refuses("no HOURS", hall, WRONG, () -> hall.pass(0, 0));
        refuses("49 HOURS", hall, WRONG, () -> hall.pass(49, 0));
        refuses("LIGHT -1", hall, WRONG, () -> hall.pass(1, -1));
        refuses("LIGHT 10", hall, WRONG, () -> hall.pass(1, 10));
        does("48 HOURS of 9", () -> hall.pass(48, 9));
        does("an HOUR of 0", () -> hall.pass(1, 0));
    }

    // ---- the hall

    private static void p8Bring() {
        promise(8, "bring", "int bring(int lot, int told, int minimum) throws IndexOutOfBoundsException, "
                + "IllegalArgumentException, IllegalStateException");
        Bloomclock hall = withThreeLots();
        says("BRINGS a LOT.");
        hall.bring(2, 77, 33);
        is("in the ROW", hall.ofLot(2, 7), 1);
        says("- `lot`: the LOT");
        is("that LOT", hall.row(0), 2);
        says("- `told`: the LIFE that is TOLD");
        is("TOLD", hall.ofLot(2, 8), 77);
        says("- `minimum`: its MINIMUM");
        is("MINIMUM", hall.ofLot(2, 9), 33);
        says("Returns how many LOTS are in the ROW then.");
        is("two", hall.bring(0, 0, 1), 2);
        is("three", hall.bring(1, 110, 99), 3);
        hall.clock();
        is("three again", hall.bring(2, 1, 1), 3);
        says("Throws `IndexOutOfBoundsException` if there is no such LOT");
        refuses("LOT 3", hall, NO_SUCH, () -> hall.bring(3, 1, 1));
        refuses("LOT -1", hall, NO_SUCH, () -> hall.bring(-1, 1, 1));
        says("Throws `IllegalArgumentException` if told is not 0 to 110, or minimum not 1 to 99");
        hall.cut(0, 10);
        refuses("TOLD -1", hall, WRONG, () -> hall.bring(3, -1, 1));
        refuses("TOLD 111", hall, WRONG, () -> hall.bring(3, 111, 1));
        refuses("MINIMUM 0", hall, WRONG, () -> hall.bring(3, 1, 0));
        refuses("MINIMUM 100", hall, WRONG, () -> hall.bring(3, 1, 100));
        says("Throws `IllegalStateException` if it is not HELD, or the QUOTA does not let it");
        refuses("in the ROW", hall, REFUSED, () -> hall.bring(0, 1, 1));
        is("BROUGHT 40", hall.vote(0, 49), 1);
        refuses("50 by a QUOTA of 49", hall, REFUSED, () -> hall.bring(3, 1, 1));
        hall.vote(0, 50);
        does("50 by a QUOTA of 50", () -> hall.bring(3, 1, 1));
        hall.clear(hall.cut(1, 1), false);
        refuses("CLEARED", hall, REFUSED, () -> hall.bring(4, 1, 1));
        hall.presell(hall.cut(1, 1), 0, 1, 1);
        refuses("SOLD", hall, REFUSED, () -> hall.bring(5, 1, 1));
    }

    private static void p9Inspect() {
        promise(9, "inspect", "int inspect(int lot) throws IndexOutOfBoundsException, IllegalStateException");
        Bloomclock hall = withThreeLots();
        hall.bring(1, 90, 1);
        hall.bring(0, 10, 1);
        says("INSPECTS.");
        is("more was TOLD than 58", hall.inspect(1), 40);
        is("what is TOLD", hall.ofLot(1, 8), 58);
        says("- `lot`: the LOT");
        is("another one", hall.inspect(0), 42);
        is("what is TOLD of it", hall.ofLot(0, 8), 10);
        says("Returns the MARK of its GROWER then.");
        is("the MARK", hall.inspect(1), 44);
        is("the MARK", hall.ofGrower(0, 2), 44);
        says("Throws `IndexOutOfBoundsException` if there is no such LOT");
        refuses("LOT 3", hall, NO_SUCH, () -> hall.inspect(3));
        refuses("LOT -1", hall, NO_SUCH, () -> hall.inspect(-1));
        says("Throws `IllegalStateException` if it is not in the ROW");
        refuses("HELD", hall, REFUSED, () -> hall.inspect(2));
        hall.clock();
        refuses("HELD again", hall, REFUSED, () -> hall.inspect(1));
        hall.presell(1, 0, 41, 1);
        refuses("SOLD", hall, REFUSED, () -> hall.inspect(1));
        hall.clear(2, true);
        refuses("CLEARED", hall, REFUSED, () -> hall.inspect(2));
    }

    private static void p10To12() {
        promise(10, "buyer", "int buyer(int latency) throws IllegalArgumentException, IllegalStateException");
        Bloomclock hall = new Bloomclock();
        says("Tells a BUYER.");
        hall.buyer(9);
        is("a BUYER", hall.many(4), 1);
        says("- `latency`: its LATENCY");
        is("LATENCY", hall.ofBuyer(0, 1), 9);
        says("Returns its number.");
        is("its number", hall.buyer(0), 1);
        is("its LATENCY", hall.ofBuyer(1, 1), 0);
        says("Throws `IllegalArgumentException` if latency is not 0 to 9");
        refuses("-1", hall, WRONG, () -> hall.buyer(-1));
        refuses("10", hall, WRONG, () -> hall.buyer(10));
        says("Throws `IllegalStateException` if there are 4");
        does("a third one", () -> hall.buyer(3));
        does("a fourth one", () -> hall.buyer(3));
        refuses("a fifth one", hall, REFUSED, () -> hall.buyer(3));

        promise(11, "even",
                "int even(int buyer, int much) throws IndexOutOfBoundsException, IllegalArgumentException");
        says("Tells by how much a BUYER is EVENED.");
        hall.even(2, 7);
        is("EVENED", hall.ofBuyer(2, 2), 7);
        says("- `buyer`: the BUYER");
        is("not another one", hall.ofBuyer(1, 2) + hall.ofBuyer(3, 2), 0);
        says("- `much`: that");
        hall.even(1, 9);
        is("EVENED", hall.ofBuyer(1, 2), 9);
        says("Returns that before.");
        is("7 before", hall.even(2, 0), 7);
        is("0 before", hall.even(2, 1), 0);
        says("Throws `IndexOutOfBoundsException` if there is no such BUYER");
        refuses("BUYER 4", hall, NO_SUCH, () -> hall.even(4, 1));
        refuses("BUYER -1", hall, NO_SUCH, () -> hall.even(-1, 1));
        says("Throws `IllegalArgumentException` if much is not 0 to 9");
        refuses("-1", hall, WRONG, () -> hall.even(0, -1));
        refuses("10", hall, WRONG, () -> hall.even(0, 10));

        promise(12, "leave",
                "int leave(int buyer, int hour) throws IndexOutOfBoundsException, IllegalArgumentException");
        says("Tells when a BUYER leaves.");
        hall.leave(2, 9999);
        is("LEAVING HOUR", hall.ofBuyer(2, 3), 9999);
        says("- `buyer`: the BUYER");
        is("not another one", hall.ofBuyer(1, 3) + hall.ofBuyer(3, 3), -2);
        says("- `hour`: its LEAVING HOUR, or NONE");
        hall.leave(1, 0);
        is("LEAVING HOUR", hall.ofBuyer(1, 3), 0);
        hall.leave(1, -1);
        is("NONE", hall.ofBuyer(1, 3), -1);
        says("Returns that before.");
        is("9999 before", hall.leave(2, 5), 9999);
        is("5 before", hall.leave(2, -1), 5);
        is("NONE before", hall.leave(2, 6), -1);
        says("Throws `IndexOutOfBoundsException` if there is no such BUYER");
        refuses("BUYER 4", hall, NO_SUCH, () -> hall.leave(4, 1));
        refuses("BUYER -1", hall, NO_SUCH, () -> hall.leave(-1, 1));
        says("Throws `IllegalArgumentException` if hour is below NONE, or above 9999");
        refuses("-2", hall, WRONG, () -> hall.leave(0, -2));
        refuses("10000", hall, WRONG, () -> hall.leave(0, 10000));
    }

    private static void p13Order() {
        promise(13, "order", "int order(int buyer, int cultivar, int grade, int shown, int mark, int limit, "
                + "int stems) throws IndexOutOfBoundsException, IllegalArgumentException, IllegalStateException");
        Bloomclock hall = withThreeLots();
        says("Tells an ORDER.");
        hall.order(1, 2, 2, 110, 50, 40, 6);
        is("an ORDER", hall.many(5), 1);
        says("- `buyer`: its BUYER - `cultivar`: the CULTIVAR - `grade`: the GRADE - `shown`: how much has to be "
                + "SHOWN - `mark`: how much of a MARK the GROWER has to have - `limit`: the LIMIT - `stems`: how "
                + "many STEMS");
        is("the CULTIVAR, a GRADE of 2, 110 SHOWN, a MARK of 50: the LIMIT", hall.wouldFetch(2), 40);
        is("another CULTIVAR", hall.wouldFetch(1), -1);
        hall.bring(2, 110, 1);
        is("how many STEMS", hall.clock(), 6);
        is("its BUYER", hall.sale(0, 1), 1);
        hall.order(1, 0, 0, 0, 0, 40, 6);
        is("a GRADE of 1 for an ORDER of 0", hall.wouldFetch(0), -1);
        hall.order(1, 0, 1, 67, 0, 39, 6);
        is("a LIFE of 66 for an ORDER of 67", hall.wouldFetch(0), -1);
        hall.order(1, 0, 1, 66, 51, 38, 6);
        is("a MARK of 50 for an ORDER of 51", hall.wouldFetch(0), -1);
        says("Returns its number.");
        is("its number", hall.order(1, 0, 1, 66, 50, 37, 6), 4);
        is("it fits", hall.wouldFetch(0), 37);
        says("Throws `IndexOutOfBoundsException` if there is no such BUYER");
        refuses("BUYER 2", hall, NO_SUCH, () -> hall.order(2, 0, 0, 0, 0, 1, 1));
        refuses("BUYER -1", hall, NO_SUCH, () -> hall.order(-1, 0, 0, 0, 0, 1, 1));
        says("Throws `IllegalArgumentException` if cultivar or grade is not 0 to 2, shown not 0 to 110, mark not 0 "
                + "to 100, limit not 1 to 99, or stems not 1 to 500");
        int[][] wrong = {{-1, 0, 0, 0, 1, 1}, {3, 0, 0, 0, 1, 1}, {0, -1, 0, 0, 1, 1}, {0, 3, 0, 0, 1, 1},
            {0, 0, -1, 0, 1, 1}, {0, 0, 111, 0, 1, 1}, {0, 0, 0, -1, 1, 1}, {0, 0, 0, 101, 1, 1},
            {0, 0, 0, 0, 0, 1}, {0, 0, 0, 0, 100, 1}, {0, 0, 0, 0, 1, 0}, {0, 0, 0, 0, 1, 501}};
        for (int[] w : wrong) {
            refuses("a wrong ORDER", hall, WRONG, () -> hall.order(0, w[0], w[1], w[2], w[3], w[4], w[5]));
        }
        does("the least one", () -> hall.order(0, 0, 0, 0, 0, 1, 1));
        does("the greatest one", () -> hall.order(1, 2, 2, 110, 100, 99, 500));
        says("Throws `IllegalStateException` if there are 12");
        for (int i = 7; i < 12; i++) {
            is("its number", hall.order(0, 0, 0, 0, 0, 1, 1), i);
        }
        refuses("a 13th one", hall, REFUSED, () -> hall.order(0, 0, 0, 0, 0, 1, 1));
    }

    private static void p14Clock() {
        promise(14, "clock", "int clock() throws IllegalStateException");
        Bloomclock hall = withThreeLots();
        order(hall, 0, 30, 7);
        order(hall, 1, 20, 8);
        hall.bring(1, 0, 1);
        hall.bring(0, 0, 1);
        says("Lets the CLOCK sell the first LOT of the ROW.");
        is("nobody takes the first one", hall.clock(), 0);
        is("the next one is the first", hall.row(0), 0);
        says("Returns how many STEMS of it were sold.");
        is("7 and 8", hall.clock(), 15);
        is("of it", hall.ofLot(0, 2), 25);
        says("Throws `IllegalStateException` if the ROW is empty");
        refuses("it is empty", hall, REFUSED, hall::clock);
        Bloomclock fresh = new Bloomclock();
        refuses("nothing was BROUGHT", fresh, REFUSED, fresh::clock);
    }

    private static void p15Presell() {
        promise(15, "presell", "int presell(int lot, int buyer, int stems, int price) throws "
                + "IndexOutOfBoundsException, IllegalArgumentException, IllegalStateException");
        Bloomclock hall = withThreeLots();
        says("SELLS ahead of the clock.");
        hall.presell(2, 1, 5, 30);
        is("a SALE", hall.many(11), 5);
        says("- `lot`: the LOT - `buyer`: the BUYER - `stems`: how many STEMS - `price`: the PRICE");
        are("LOT, BUYER, STEMS, PRICE, HOUR", i -> hall.sale(0, i), 2, 1, 5, 30, 24);
        says("Returns what the GROWER gets.");
        is("99 less a FEE of 4", hall.presell(0, 0, 1, 99), 95);
        is("81 less a FEE of 4", hall.presell(0, 0, 1, 81), 77);
        is("COINS of the GROWER", hall.ofGrower(0, 0), 100 + 143 + 95 + 77);
        says("Throws `IndexOutOfBoundsException` if there is no such LOT, or BUYER");
        refuses("LOT 3", hall, NO_SUCH, () -> hall.presell(3, 0, 1, 1));
        refuses("LOT -1", hall, NO_SUCH, () -> hall.presell(-1, 0, 1, 1));
        refuses("BUYER 2", hall, NO_SUCH, () -> hall.presell(0, 2, 1, 1));
        refuses("BUYER -1", hall, NO_SUCH, () -> hall.presell(0, -1, 1, 1));
        says("Throws `IllegalArgumentException` if stems is below 1, or price not 1 to 99");
        refuses("no STEMS", hall, WRONG, () -> hall.presell(0, 0, 0, 1));
        refuses("a PRICE of 0", hall, WRONG, () -> hall.presell(0, 0, 1, 0));
        refuses("a PRICE of 100", hall, WRONG, () -> hall.presell(0, 0, 1, 100));
        says("Throws `IllegalStateException` if it is not HELD, has less, or the BUYER has not so many COINS");
        refuses("39 of 38", hall, REFUSED, () -> hall.presell(0, 0, 39, 1));
        int coins = hall.ofBuyer(1, 0);
        is("its COINS", coins, 2000 - 150 - 2);
        refuses("1850 of 1848 COINS", hall, REFUSED, () -> hall.presell(2, 1, 37, 50));
        does("1848 of 1848 COINS", () -> hall.presell(2, 1, 28, 66));
        hall.bring(1, 1, 1);
        refuses("in the ROW", hall, REFUSED, () -> hall.presell(1, 0, 1, 1));
        hall.presell(0, 0, 38, 1);
        refuses("SOLD", hall, REFUSED, () -> hall.presell(0, 0, 1, 1));
        hall.clear(2, false);
        refuses("CLEARED", hall, REFUSED, () -> hall.presell(2, 0, 1, 1));
    }

    private static void p16Undo() {
        promise(16, "undo", "int undo() throws IllegalStateException");
        Bloomclock hall = withThreeLots();
        long before = hall.digest();
        hall.presell(0, 0, 40, 7);
        says("UNDOES the latest SALE.");
        does("it is UNDONE", hall::undo);
        is("all is as it was ahead of it", hall.digest(), before);
        says("Returns how many STEMS come back.");
        hall.presell(1, 0, 12, 7);
        hall.presell(2, 1, 3, 7);
        is("of the latest one", hall.undo(), 3);
        is("of the one ahead of it", hall.undo(), 12);
        says("Throws `IllegalStateException` if that can not be (section 4), or no SALE is kept");
        refuses("all are UNDONE", hall, REFUSED, hall::undo);
        Bloomclock fresh = new Bloomclock();
        refuses("nothing was sold", fresh, REFUSED, fresh::undo);
        hall.presell(0, 0, 1, 1);
        hall.pass(1, 0);
        refuses("an HOUR later", hall, REFUSED, hall::undo);
        hall.presell(1, 1, 1, 1);
        hall.clear(1, false);
        refuses("CLEARED", hall, REFUSED, hall::undo);
        hall.presell(0, 0, 1, 1);
        hall.back(0, 2);
        refuses("its BUCKET is BACK", hall, REFUSED, hall::undo);
        Bloomclock kept = withThreeLots();
        for (int i = 0; i < 21; i++) {
            kept.presell(0, 0, 1, 1);
        }
        for (int i = 0; i < 20; i++) {
            does("one that is kept", kept::undo);
        }
        refuses("one that is not kept", kept, REFUSED, kept::undo);
    }

    private static void p17To19() {
        promise(17, "speed", "int speed(int speed) throws IllegalArgumentException");
        Bloomclock hall = withThreeLots();
        says("Tells the SPEED of the rail.");
        hall.speed(4);
        for (int i = 0; i < 6; i++) {
            hall.presell(0, 0, 1, 1);
        }
        is("4 in an HOUR", hall.pass(1, 0), 4);
        says("- `speed`: that");
        hall.speed(1);
        is("1 in an HOUR", hall.pass(1, 0), 1);
        says("Returns that before.");
        is("1 before", hall.speed(9), 1);
        is("9 before", hall.speed(9), 9);
        says("Throws `IllegalArgumentException` if speed is not 1 to 9");
        refuses("0", hall, WRONG, () -> hall.speed(0));
        refuses("10", hall, WRONG, () -> hall.speed(10));
        is("9 before", hall.speed(1), 9);

        promise(18, "bind",
                "int bind(int buyer, int many) throws IndexOutOfBoundsException, IllegalArgumentException");
        hall.presell(0, 0, 34, 1);
        hall.presell(1, 1, 2, 1);
        hall.pass(3, 0);
        is("the STOCK", hall.ofBuyer(0, 4), 40);
        says("BINDS bouquets.");
        hall.bind(0, 1);
        is("9 of 0", hall.ofBuyer(0, 4), 31);
        is("BOUND ever", hall.ofBuyer(0, 8), 1);
        says("- `buyer`: the BUYER");
        is("not of another one", hall.ofBuyer(1, 5), 2);
        says("- `many`: how many at most");
        is("two of three", hall.bind(0, 2), 2);
        is("13 are left", hall.ofBuyer(0, 4), 13);
        says("Returns how many.");
        is("one more", hall.bind(0, 99), 1);
        is("none more", hall.bind(0, 99), 0);
        is("none without a STOCK of 0", hall.bind(1, 1), 0);
        says("Throws `IndexOutOfBoundsException` if there is no such BUYER");
        refuses("BUYER 2", hall, NO_SUCH, () -> hall.bind(2, 1));
        refuses("BUYER -1", hall, NO_SUCH, () -> hall.bind(-1, 1));
        says("Throws `IllegalArgumentException` if many is not 1 to 99");
        refuses("0", hall, WRONG, () -> hall.bind(0, 0));
        refuses("100", hall, WRONG, () -> hall.bind(0, 100));

        promise(19, "back", "int back(int buyer, int many) throws IndexOutOfBoundsException, "
                + "IllegalArgumentException, IllegalStateException");
        Bloomclock back = withThreeLots();
        back.presell(1, 1, 41, 1);
        is("the POOL", back.many(8), 60 - 2 - 3 - 3);
        says("Brings BUCKETS BACK.");
        back.back(1, 1);
        is("the POOL", back.many(8), 53);
        says("- `buyer`: the BUYER");
        is("BUCKETS of it", back.ofBuyer(1, 7), 2);
        refuses("the other one has none", back, REFUSED, () -> back.back(0, 1));
        says("- `many`: how many");
        back.back(1, 2);
        is("BUCKETS of it", back.ofBuyer(1, 7), 0);
        says("Returns how many are in the POOL then.");
        back.presell(2, 0, 42, 1);
        is("55 and 1", back.back(0, 1), 56);
        is("56 and 2", back.back(0, 2), 58);
        says("Throws `IndexOutOfBoundsException` if there is no such BUYER");
        refuses("BUYER 2", back, NO_SUCH, () -> back.back(2, 1));
        refuses("BUYER -1", back, NO_SUCH, () -> back.back(-1, 1));
        says("Throws `IllegalArgumentException` if many is below 1");
        refuses("0", back, WRONG, () -> back.back(0, 0));
        refuses("-1", back, WRONG, () -> back.back(0, -1));
        says("Throws `IllegalStateException` if it has less");
        back.presell(0, 0, 40, 1);
        refuses("3 of 2", back, REFUSED, () -> back.back(0, 3));
        does("2 of 2", () -> back.back(0, 2));
        refuses("1 of none", back, REFUSED, () -> back.back(0, 1));
    }

    private static void p20Clear() {
        promise(20, "clear",
                "int clear(int lot, boolean isGiven) throws IndexOutOfBoundsException, IllegalStateException");
        Bloomclock hall = withThreeLots();
        says("CLEARS a LOT.");
        hall.clear(1, false);
        is("CLEARED", hall.ofLot(1, 7), 3);
        is("WASTE", hall.many(10), 41);
        says("- `lot`: the LOT");
        is("not another one", hall.ofLot(0, 7) + hall.ofLot(2, 7), 0);
        says("- `isGiven`: whether it is GIVEN away");
        is("it was not", hall.ofGrower(0, 2), 50);
        hall.clear(0, true);
        is("it was", hall.ofGrower(0, 2), 51);
        is("it is WASTE, too", hall.many(10), 81);
        says("Returns how many STEMS it had.");
        hall.presell(2, 0, 2, 1);
        is("40 of 42", hall.clear(2, false), 40);
        says("Throws `IndexOutOfBoundsException` if there is no such LOT");
        refuses("LOT 3", hall, NO_SUCH, () -> hall.clear(3, false));
        refuses("LOT -1", hall, NO_SUCH, () -> hall.clear(-1, true));
        says("Throws `IllegalStateException` if it is not HELD");
        refuses("CLEARED", hall, REFUSED, () -> hall.clear(2, true));
        hall.bring(hall.cut(0, 1), 1, 1);
        refuses("in the ROW", hall, REFUSED, () -> hall.clear(3, true));
        hall.presell(hall.cut(0, 1), 0, 1, 1);
        refuses("SOLD", hall, REFUSED, () -> hall.clear(4, true));
    }

    private static void p21Vote() {
        promise(21, "vote",
                "int vote(int cultivar, int quota) throws IndexOutOfBoundsException, IllegalArgumentException");
        Bloomclock hall = withThreeLots();
        hall.grower();
        hall.plant(1, 0, 10);
        hall.pass(12, 5);
        says("VOTES.");
        hall.vote(2, 0);
        is("the QUOTA", hall.many(14), 0);
        says("- `cultivar`: the CULTIVAR");
        is("not of another one", hall.many(12) + hall.many(13), 1000);
        says("- `quota`: the QUOTA");
        hall.vote(0, 999);
        is("the QUOTA", hall.many(12), 999);
        says("Returns the weight of those who said YES.");
        is("both", hall.vote(1, 600), 2);
        hall.presell(0, 0, 8, 1);
        hall.presell(2, 1, 2, 1);
        is("1 + 10 and 1", hall.vote(1, 700), 12);
        hall.bring(1, 1, 1);
        is("the other one alone", hall.vote(1, 40), 1);
        is("nobody changes it", hall.many(13), 700);
        hall.bring(hall.cut(3, 9), 1, 1);
        is("the first one alone", hall.vote(0, 8), 11);
        is("the QUOTA", hall.many(12), 8);
        says("Throws `IndexOutOfBoundsException` if cultivar is not 0 to 2");
        refuses("-1", hall, NO_SUCH, () -> hall.vote(-1, 1));
        refuses("3", hall, NO_SUCH, () -> hall.vote(3, 1));
        says("Throws `IllegalArgumentException` if quota is not 0 to 999");
        refuses("-1", hall, WRONG, () -> hall.vote(0, -1));
        refuses("1000", hall, WRONG, () -> hall.vote(0, 1000));
    }

    // ---- what is asked

    private static void p22OfCrop() {
        promise(22, "ofCrop",
                "int ofCrop(int crop, int what) throws IndexOutOfBoundsException, IllegalArgumentException");
        Bloomclock hall = withThreeLots();
        hall.grower();
        hall.plant(1, 1, 70);
        hall.pass(2, 4);
        says("- `crop`: a CROP");
        are("the second one", i -> hall.ofCrop(1, i), 0, 1, 159);
        are("the fourth one", i -> hall.ofCrop(3, i), 1, 1, 70);
        says("- `what`: 0 its GROWER, 1 CULTIVAR, 2 PLANTS, 3 SUM, 4 1 if it is READY, otherwise 0, 5 AGE (0, if it "
                + "is not READY)");
        are("READY", i -> hall.ofCrop(1, i), 0, 1, 159, 128, 1, 8);
        are("not READY", i -> hall.ofCrop(3, i), 1, 1, 70, 8, 0, 0);
        says("Returns that.");
        is("SUM", hall.ofCrop(2, 3), 128);
        says("Throws `IndexOutOfBoundsException` if there is no such CROP");
        refuses("CROP 4", hall, NO_SUCH, () -> hall.ofCrop(4, 0));
        refuses("CROP -1", hall, NO_SUCH, () -> hall.ofCrop(-1, 0));
        says("Throws `IllegalArgumentException` if what is not 0 to 5");
        refuses("-1", hall, WRONG, () -> hall.ofCrop(0, -1));
        refuses("6", hall, WRONG, () -> hall.ofCrop(0, 6));
    }

    private static void p23OfLot() {
        promise(23, "ofLot",
                "int ofLot(int lot, int what) throws IndexOutOfBoundsException, IllegalArgumentException");
        Bloomclock hall = withThreeLots();
        hall.grower();
        hall.plant(1, 1, 70);
        hall.pass(41, 5);
        hall.cut(3, 61);
        says("- `lot`: a LOT");
        are("the third one", i -> hall.ofLot(2, i), 0, 2, 42);
        are("the fourth one", i -> hall.ofLot(3, i), 1, 1, 61);
        says("- `what`: 0 its GROWER, 1 CULTIVAR, 2 STEMS, 3 GRADE, 4 LIFE, 5 BUCKETS, 6 PLACE, 7 STATE, 8 what is "
                + "TOLD, 9 MINIMUM (8 and 9: what was told last; NONE, if it was never BROUGHT)");
        are("never BROUGHT", i -> hall.ofLot(3, i), 1, 1, 61, 2, 24, 4, 1, 0, -1, -1);
        hall.move(3, 2);
        hall.bring(3, 30, 20);
        are("in the ROW", i -> hall.ofLot(3, i), 1, 1, 61, 2, 24, 4, 2, 1, 30, 20);
        hall.clock();
        are("what was told last", i -> hall.ofLot(3, i), 1, 1, 61, 2, 24, 4, 2, 0, 30, 20);
        hall.bring(3, 0, 99);
        hall.pass(1, 0);
        are("what was told last", i -> hall.ofLot(3, i), 1, 1, 61, 2, 18, 4, 2, 1, 0, 99);
        hall.clock();
        hall.presell(3, 1, 61, 1);
        are("SOLD", i -> hall.ofLot(3, i), 1, 1, 0, 2, 18, 0, 2, 2, 0, 99);
        says("Returns that.");
        is("LIFE", hall.ofLot(2, 4), 0);
        says("Throws `IndexOutOfBoundsException` if there is no such LOT");
        refuses("LOT 4", hall, NO_SUCH, () -> hall.ofLot(4, 0));
        refuses("LOT -1", hall, NO_SUCH, () -> hall.ofLot(-1, 0));
        says("Throws `IllegalArgumentException` if what is not 0 to 9");
        refuses("-1", hall, WRONG, () -> hall.ofLot(0, -1));
        refuses("10", hall, WRONG, () -> hall.ofLot(0, 10));
    }

    private static void p24OfGrower() {
        promise(24, "ofGrower",
                "int ofGrower(int grower, int what) throws IndexOutOfBoundsException, IllegalArgumentException");
        Bloomclock hall = withThreeLots();
        hall.grower();
        hall.lamps(0, 2);
        hall.lamps(1, 1);
        hall.pass(5, 0);
        hall.presell(0, 0, 10, 10);
        hall.presell(1, 0, 5, 1);
        hall.bring(1, 0, 1);
        hall.bring(2, 0, 1);
        hall.inspect(1);
        says("- `grower`: a GROWER");
        are("the second one", i -> hall.ofGrower(1, i), 95, 1, 50, 0, 0);
        says("- `what`: 0 COINS, 1 LAMPS, 2 MARK, 3 STEMS that were SOLD of it ever, 4 STEMS that it BROUGHT on this "
                + "DAY");
        are("the first one", i -> hall.ofGrower(0, i), 100 - 10 + 95 + 5, 2, 52, 15, 36 + 42);
        hall.pass(19, 0);
        are("on the next DAY", i -> hall.ofGrower(0, i), 190 - 38, 2, 52, 15, 0);
        says("Returns that.");
        is("COINS", hall.ofGrower(1, 0), 76);
        says("Throws `IndexOutOfBoundsException` if there is no such GROWER");
        refuses("GROWER 2", hall, NO_SUCH, () -> hall.ofGrower(2, 0));
        refuses("GROWER -1", hall, NO_SUCH, () -> hall.ofGrower(-1, 0));
        says("Throws `IllegalArgumentException` if what is not 0 to 4");
        refuses("-1", hall, WRONG, () -> hall.ofGrower(0, -1));
        refuses("5", hall, WRONG, () -> hall.ofGrower(0, 5));
    }

    private static void p25OfBuyer() {
        promise(25, "ofBuyer",
                "int ofBuyer(int buyer, int what) throws IndexOutOfBoundsException, IllegalArgumentException");
        Bloomclock hall = withThreeLots();
        hall.buyer(6);
        hall.even(2, 4);
        hall.leave(2, 99);
        hall.presell(0, 2, 12, 1);
        hall.presell(1, 2, 7, 1);
        hall.presell(2, 2, 5, 1);
        hall.pass(2, 0);
        says("- `buyer`: a BUYER");
        are("the first one", i -> hall.ofBuyer(0, i), 2000, 0, 0, -1, 0, 0, 0, 0, 0);
        says("- `what`: 0 COINS, 1 LATENCY, 2 EVENED, 3 the LEAVING HOUR (NONE), 4 to 6 STOCK of the CULTIVARS 0 to "
                + "2, 7 BUCKETS, 8 bouquets that it BOUND ever");
        are("the third one", i -> hall.ofBuyer(2, i), 2000 - 24 - 6, 6, 4, 99, 12, 7, 5, 3, 0);
        hall.bind(2, 1);
        hall.bind(2, 2);
        are("bouquets", i -> hall.ofBuyer(2, i), 1970, 6, 4, 99, 3, 1, 2, 3, 3);
        says("Returns that.");
        is("NONE", hall.ofBuyer(1, 3), -1);
        says("Throws `IndexOutOfBoundsException` if there is no such BUYER");
        refuses("BUYER 3", hall, NO_SUCH, () -> hall.ofBuyer(3, 0));
        refuses("BUYER -1", hall, NO_SUCH, () -> hall.ofBuyer(-1, 0));
        says("Throws `IllegalArgumentException` if what is not 0 to 8");
        refuses("-1", hall, WRONG, () -> hall.ofBuyer(0, -1));
        refuses("9", hall, WRONG, () -> hall.ofBuyer(0, 9));
    }

    private static void p26To28() {
        promise(26, "wants", "int wants(int order) throws IndexOutOfBoundsException");
        Bloomclock hall = withThreeLots();
        order(hall, 0, 30, 7);
        order(hall, 1, 20, 500);
        hall.bring(0, 0, 1);
        hall.clock();
        says("- `order`: an ORDER");
        is("the first one", hall.wants(0), 0);
        says("Returns how much it still wants.");
        is("500 less 33", hall.wants(1), 467);
        says("Throws `IndexOutOfBoundsException` if there is no such ORDER");
        refuses("ORDER 2", hall, NO_SUCH, () -> hall.wants(2));
        refuses("ORDER -1", hall, NO_SUCH, () -> hall.wants(-1));

        promise(27, "sale",
                "int sale(int k, int what) throws IndexOutOfBoundsException, IllegalArgumentException");
        says("- `k`: a SALE that is kept, the latest one 0 (as a 21st one would be kept, the oldest one is not any "
                + "more; one that is UNDONE is not any more)");
        are("the latest one", i -> hall.sale(0, i), 0, 1, 33, 20, 24);
        are("the one ahead of it", i -> hall.sale(1, i), 0, 0, 7, 30, 24);
        Bloomclock kept = withThreeLots();
        for (int i = 1; i <= 22; i++) {
            kept.presell(0, 0, 1, i);
        }
        is("the oldest one of 22", kept.sale(19, 3), 3);
        refuses("20 are kept", kept, NO_SUCH, () -> kept.sale(20, 3));
        kept.undo();
        is("one that is UNDONE", kept.sale(0, 3), 21);
        refuses("19 are kept", kept, NO_SUCH, () -> kept.sale(19, 3));
        says("- `what`: 0 its LOT, 1 BUYER, 2 STEMS, 3 PRICE, 4 the HOUR");
        hall.pass(3, 0);
        hall.presell(2, 1, 5, 6);
        are("LOT, BUYER, STEMS, PRICE, HOUR", i -> hall.sale(0, i), 2, 1, 5, 6, 27);
        says("Returns that.");
        is("the HOUR", hall.sale(2, 4), 24);
        says("Throws `IndexOutOfBoundsException` if there is no such one");
        refuses("the fourth one of three", hall, NO_SUCH, () -> hall.sale(3, 0));
        refuses("-1", hall, NO_SUCH, () -> hall.sale(-1, 0));
        says("Throws `IllegalArgumentException` if what is not 0 to 4");
        refuses("-1", hall, WRONG, () -> hall.sale(0, -1));
        refuses("5", hall, WRONG, () -> hall.sale(0, 5));

        promise(28, "row", "int row(int k) throws IllegalArgumentException");
        Bloomclock row = withThreeLots();
        row.bring(1, 0, 1);
        row.bring(2, 0, 1);
        says("- `k`: a place in the ROW, from 0");
        is("the first one", row.row(0), 1);
        is("the second one", row.row(1), 2);
        says("Returns the LOT there; NONE, if there is none.");
        is("NONE", row.row(2), -1);
        is("NONE", row.row(Integer.MAX_VALUE), -1);
        row.clock();
        are("the ROW goes on", row::row, 2, -1, -1);
        says("Throws `IllegalArgumentException` if k is below 0");
        refuses("-1", row, WRONG, () -> row.row(-1));
        refuses("the least one", row, WRONG, () -> row.row(Integer.MIN_VALUE));
    }

    private static void p29And30() {
        promise(29, "many", "int many(int what) throws IllegalArgumentException");
        Bloomclock hall = withThreeLots();
        says("- `what`: 0 HOUR, 1 GROWERS, 2 CROPS, 3 LOTS, 4 BUYERS, 5 ORDERS, 6 LOTS in the ROW, 7 TROLLEYS on the "
                + "rail, 8 the POOL, 9 COINS of the HALL (0 at first), 10 WASTE ever, 11 STEMS that were SOLD ever "
                + "(less what was UNDONE), 12 to 14 the QUOTA of the CULTIVARS 0 to 2, 15 the least LIFE of a "
                + "TROLLEY on the rail (NONE)");
        are("at first", hall::many, 24, 1, 3, 3, 2, 0, 0, 0, 52, 0, 0, 0, 500, 500, 500, -1);
        order(hall, 0, 1, 1);
        hall.presell(0, 0, 30, 20);
        hall.presell(0, 1, 2, 10);
        hall.undo();
        hall.presell(2, 1, 1, 1);
        hall.clear(1, false);
        hall.bring(2, 0, 1);
        hall.vote(0, 8);
        hall.vote(1, 9);
        hall.vote(2, 99);
        are("0 to 15", hall::many, 24, 1, 3, 3, 2, 1, 1, 2, 55, 30 + 6, 41, 31, 8, 9, 99, 66);
        says("Returns that.");
        is("the POOL", hall.many(8), 55);
        says("Throws `IllegalArgumentException` if what is not 0 to 15");
        refuses("-1", hall, WRONG, () -> hall.many(-1));
        refuses("16", hall, WRONG, () -> hall.many(16));

        promise(30, "meanPrice", "double meanPrice()");
        says("Returns the mean PRICE of all STEMS that were SOLD ever (less what was UNDONE), not cut; 0 without "
                + "any.");
        is("601 for 31", hall.meanPrice(), 601.0 / 31.0);
        is("0 without any", new Bloomclock().meanPrice(), 0.0);
        Bloomclock undone = withThreeLots();
        undone.presell(0, 0, 3, 5);
        undone.undo();
        is("0 without any", undone.meanPrice(), 0.0);
        undone.presell(0, 0, 1, 5);
        is("of one STEM", undone.meanPrice(), 5.0);
        undone.presell(0, 0, 1, 6);
        is("not cut", undone.meanPrice(), 5.5);
    }

    // ---- what would be

    private static void p31And32() {
        promise(31, "wouldFetch", "int wouldFetch(int lot) throws IndexOutOfBoundsException");
        Bloomclock hall = withThreeLots();
        hall.buyer(3);
        order(hall, 0, 30, 5);
        order(hall, 2, 35, 6);
        hall.order(1, 0, 2, 66, 0, 31, 3);
        hall.order(1, 1, 2, 59, 0, 50, 3);
        says("- `lot`: a LOT");
        is("the second one", hall.wouldFetch(1), -1);
        says("Returns the PRICE of the first SALE, if the CLOCK sold it now, with its LIFE as what is TOLD, and a "
                + "MINIMUM of 1; NONE, if nobody took it, or it has no STEMS.");
        is("the smallest STAMP: 35 less a LATENCY of 3", hall.wouldFetch(0), 32);
        hall.even(2, 1);
        is("EVENED", hall.wouldFetch(0), 33);
        hall.bring(0, 1, 99);
        is("its LIFE as what is TOLD, a MINIMUM of 1", hall.wouldFetch(0), 33);
        hall.even(2, 0);
        hall.order(0, 1, 2, 0, 0, 1, 3);
        is("a LIFE of 58 for an ORDER of 59: a PRICE of 1", hall.wouldFetch(1), 1);
        is("nobody took it", hall.wouldFetch(2), -1);
        hall.clock();
        hall.clear(2, false);
        is("no STEMS", hall.wouldFetch(2), -1);
        says("Throws `IndexOutOfBoundsException` if there is no such LOT");
        refuses("LOT 3", hall, NO_SUCH, () -> hall.wouldFetch(3));
        refuses("LOT -1", hall, NO_SUCH, () -> hall.wouldFetch(-1));

        promise(32, "bestMinimum", "int bestMinimum(int lot) throws IndexOutOfBoundsException");
        says("- `lot`: a LOT");
        is("the second one", hall.bestMinimum(1), 1);
        says("Returns the MINIMUM (1 to 99) with which its GROWER would get most, if the CLOCK sold it now, with its "
                + "LIFE as what is TOLD; of several the greatest one.");
        is("all three take", hall.bestMinimum(0), 30);
        is("nobody takes: of all the greatest one", hall.bestMinimum(2), 99);
        is("as if it were tried with each", hall.bestMinimum(0), bestByTrying());
        Bloomclock one = withLot(1);
        one.buyer(0);
        order(one, 0, 98, 1);
        order(one, 0, 97, 1);
        is("one stem, for 98", one.bestMinimum(0), 98);
        says("Throws `IndexOutOfBoundsException` if there is no such LOT");
        refuses("LOT 3", hall, NO_SUCH, () -> hall.bestMinimum(3));
        refuses("LOT -1", hall, NO_SUCH, () -> hall.bestMinimum(-1));
    }

    /** The best MINIMUM of a LOT with three ORDERS, found by a clock for each. */
    private static int bestByTrying() {
        int best = 0;
        int most = 0;
        for (int minimum = 1; minimum <= 99; minimum++) {
            Bloomclock hall = withThreeLots();
            hall.buyer(3);
            order(hall, 0, 30, 5);
            order(hall, 2, 35, 6);
            hall.order(1, 0, 2, 66, 0, 31, 3);
            hall.bring(0, 66, minimum);
            hall.clock();
            int coins = hall.ofGrower(0, 0);
            best = coins >= most ? minimum : best;
            most = Math.max(most, coins);
        }
        return best;
    }

    private static void p33And34() {
        promise(33, "readyIn", "int readyIn(int crop) throws IndexOutOfBoundsException");
        Bloomclock hall = new Bloomclock();
        hall.grower();
        hall.grower();
        hall.lamps(1, 2);
        hall.plant(0, 0, 1);
        hall.plant(1, 2, 1);
        says("- `crop`: a CROP");
        is("the first one: 60 / 5", hall.readyIn(0), 12);
        is("the second one: 120 / 7", hall.readyIn(1), 18);
        says("Returns in how many HOURS it would be READY, with LIGHT and LAMPS as they are; 0, if it is; NONE, if "
                + "never.");
        hall.pass(10, 3);
        is("30 / 3", hall.readyIn(0), 10);
        is("70 / 5", hall.readyIn(1), 14);
        hall.lamps(0, 1);
        is("30 / 4", hall.readyIn(0), 8);
        hall.pass(7, 3);
        is("2 / 4", hall.readyIn(0), 1);
        hall.pass(1, 3);
        is("it is", hall.readyIn(0), 0);
        hall.pass(1, 0);
        is("it is", hall.readyIn(0), 0);
        is("28 / 2", hall.readyIn(1), 14);
        hall.lamps(1, 1);
        is("28 / 1", hall.readyIn(1), 28);
        hall.lamps(1, 0);
        is("never", hall.readyIn(1), -1);
        says("Throws `IndexOutOfBoundsException` if there is no such CROP");
        refuses("CROP 2", hall, NO_SUCH, () -> hall.readyIn(2));
        refuses("CROP -1", hall, NO_SUCH, () -> hall.readyIn(-1));

        promise(34, "lampsFor",
                "int lampsFor(int cultivar, int hours) throws IndexOutOfBoundsException, IllegalArgumentException");
        Bloomclock lamps = new Bloomclock();
        says("- `cultivar`: a CULTIVAR");
        are("in 18 HOURS", i -> lamps.lampsFor(i, 18), 0, 0, 2);
        says("- `hours`: so many HOURS");
        are("in 15 to 11 HOURS", i -> lamps.lampsFor(1, 15 - i), 1, 2, 2, 3, -1);
        says("Returns the fewest LAMPS (0 to 3) with which a CROP that is planted now would be READY in so many "
                + "HOURS, with the LIGHT as it is; NONE, if 3 are too few.");
        is("60 by 5 and 1", lamps.lampsFor(0, 10), 1);
        is("60 by 5 and 3", lamps.lampsFor(0, 8), 3);
        is("3 are too few", lamps.lampsFor(0, 7), -1);
        lamps.pass(1, 9);
        is("60 by 9", lamps.lampsFor(0, 7), 0);
        lamps.pass(1, 0);
        is("60 by 2", lamps.lampsFor(0, 30), 2);
        is("60 by 1", lamps.lampsFor(0, 200), 1);
        says("Throws `IndexOutOfBoundsException` if cultivar is not 0 to 2");
        refuses("-1", lamps, NO_SUCH, () -> lamps.lampsFor(-1, 1));
        refuses("3", lamps, NO_SUCH, () -> lamps.lampsFor(3, 1));
        says("Throws `IllegalArgumentException` if hours is not 1 to 200");
        refuses("0", lamps, WRONG, () -> lamps.lampsFor(0, 0));
        refuses("201", lamps, WRONG, () -> lamps.lampsFor(0, 201));
    }

    private static void p35Digest() {
        promise(35, "digest", "long digest()");
        says("Computes a checksum.");
        Bloomclock hall = withThreeLots();
        long before = hall.digest();
        hall.speed(3);
        is("the SPEED is not in it", hall.digest(), before);
        hall.lamps(0, 1);
        is("LAMPS are", hall.digest() == before, false);
        says("A number d starts with 58185; for each of the following numbers v, d becomes d * 31 + v, which wraps "
                + "around as a 64-bit integer: many() of 0 to 15; GROWER by GROWER ofGrower() of 0 to 4; CROP by "
                + "CROP ofCrop() of 0 to 5, readyIn(); LOT by LOT ofLot() of 0 to 9, wouldFetch(), bestMinimum(); "
                + "BUYER by BUYER ofBuyer() of 0 to 8; ORDER by ORDER wants(); SALE by SALE that is kept sale() of "
                + "0 to 4; row() of 0, 1 and 2; lampsFor() of 0 to 2 and 12.");
        hall.grower();
        order(hall, 0, 20, 9);
        order(hall, 1, 30, 8);
        hall.bring(0, 50, 3);
        hall.clock();
        hall.presell(2, 1, 1, 1);
        hall.bring(2, 5, 5);
        hall.bring(0, 6, 6);
        StringBuilder all = new StringBuilder();
        numbers(all, hall::many, 16);
        for (int i = 0; i < 2; i++) {
            int grower = i;
            numbers(all, what -> hall.ofGrower(grower, what), 5);
        }
        for (int i = 0; i < 3; i++) {
            int crop = i;
            numbers(all, what -> hall.ofCrop(crop, what), 6);
            numbers(all, what -> hall.readyIn(crop), 1);
        }
        for (int i = 0; i < 3; i++) {
            int lot = i;
            numbers(all, what -> hall.ofLot(lot, what), 10);
            numbers(all, what -> hall.wouldFetch(lot), 1);
            numbers(all, what -> hall.bestMinimum(lot), 1);
        }
        for (int i = 0; i < 2; i++) {
            int buyer = i;
            numbers(all, what -> hall.ofBuyer(buyer, what), 9);
        }
        numbers(all, hall::wants, 2);
        for (int i = 0; i < 3; i++) {
            int k = i;
            numbers(all, what -> hall.sale(k, what), 5);
        }
        numbers(all, hall::row, 3);
        numbers(all, cultivar -> hall.lampsFor(cultivar, 12), 3);
        long d = 58185;
        for (String v : all.toString().trim().split(" ")) {
            d = d * 31 + Integer.parseInt(v);
        }
        is("d", hall.digest(), d);
        says("Returns d.");
        is("d again: it changes nothing", hall.digest(), d);
    }

    private static void numbers(StringBuilder all, java.util.function.IntUnaryOperator question, int many) {
        for (int i = 0; i < many; i++) {
            all.append(question.applyAsInt(i)).append(' ');
        }
    }

    private static void whatIsNotPromised() {
        tells("## Not promised");
        tells("How the state is held inside the object is free, as are the speed of each call, the text of toString "
                + "and the behaviour of equals and hashCode. Use of one object from several threads at once is not "
                + "promised to be safe. Nothing is promised beyond the answers and state changes described above, "
                + "and nothing about an object after its 512th call.");
    }

    static void all() {
        p1To3();
        p4Plant();
        p5Cut();
        p6Move();
        p7Pass();
        p8Bring();
        p9Inspect();
        p10To12();
        p13Order();
        p14Clock();
        p15Presell();
        p16Undo();
        p17To19();
        p20Clear();
        p21Vote();
        p22OfCrop();
        p23OfLot();
        p24OfGrower();
        p25OfBuyer();
        p26To28();
        p29And30();
        p31And32();
        p33And34();
        p35Digest();
        whatIsNotPromised();
    }
}
