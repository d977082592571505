/**
 * Each sentence of "Terms" that names a boundary, in the order of the document's sections 1 to 5, and behind
 * them the answers of the promises that name a case of their own. What is refused stands in RefusalsTest.
 */
public final class EdgesTest extends Checks {
    private static final int[] ASKED = {60, 90, 120};
    private static final int[] FRESH = {90, 70, 110};

    // ---- section 1: growers, cultivars, crops, lots, buckets

    /** A hall with one GROWER and a CROP of that CULTIVAR whose SUM is one less than it asks. */
    private static Bloomclock oneShortOfReady(int cultivar) {
        Bloomclock hall = new Bloomclock();
        hall.grower();
        hall.plant(0, cultivar, 10);
        int due = ASKED[cultivar] - 1;
        hall.pass(due / 9, 9);
        hall.pass(1, due % 9);
        return hall;
    }

    private static void readyAtTheSumThatIsAsked() {
        for (int cultivar = 0; cultivar < 3; cultivar++) {
            Bloomclock hall = oneShortOfReady(cultivar);
            is("the SUM", hall.ofCrop(0, 3), ASKED[cultivar] - 1);
            is("one less than it asks is not READY", hall.ofCrop(0, 4), 0);
            hall.pass(1, 0);
            is("an HOUR without LIGHT", hall.ofCrop(0, 3), ASKED[cultivar] - 1);
            is("is not READY either", hall.ofCrop(0, 4), 0);
            is("cut of it", answer(() -> hall.cut(0, 1)), "throws.IllegalStateException");
            hall.pass(1, 1);
            is("the SUM", hall.ofCrop(0, 3), ASKED[cultivar]);
            is("what it asks is READY", hall.ofCrop(0, 4), 1);
            is("AGE as it is READY", hall.ofCrop(0, 5), 0);
            is("cut of it", hall.cut(0, 1), 0);
            Bloomclock above = oneShortOfReady(cultivar);
            above.pass(1, 9);
            is("the SUM", above.ofCrop(0, 3), ASKED[cultivar] + 8);
            is("more than it asks is READY", above.ofCrop(0, 4), 1);
            is("AGE as it is READY", above.ofCrop(0, 5), 0);
            Bloomclock lamps = oneShortOfReady(cultivar);
            lamps.lamps(0, 1);
            lamps.pass(1, 0);
            is("by LAMPS alone", lamps.ofCrop(0, 4), 1);
        }
    }

    private static void ageFromTheHourBehindReady() {
        Bloomclock hall = oneShortOfReady(0);
        hall.pass(1, 1);
        is("AGE 0", hall.ofCrop(0, 5), 0);
        hall.pass(1, 0);
        is("AGE 1", hall.ofCrop(0, 5), 1);
        hall.pass(1, 9);
        is("AGE 2", hall.ofCrop(0, 5), 2);
        is("the SUM goes on", hall.ofCrop(0, 3), 69);
        hall.cut(0, 10);
        hall.pass(1, 1);
        is("AGE of a CROP without PLANTS", hall.ofCrop(0, 5), 3);
        is("SUM of a CROP without PLANTS", hall.ofCrop(0, 3), 70);
        is("PLANTS of it", hall.ofCrop(0, 2), 0);
    }

    private static void gradeByAge() {
        int[][] due = {{0, 0}, {1, 0}, {9, 0}, {10, 0}, {11, 1}, {12, 1}, {19, 1}, {20, 1}, {21, 2}, {22, 2}, {60, 2}};
        Bloomclock hall = withLot(1);
        int age = 0;
        for (int[] each : due) {
            if (each[0] > age) {
                hall.pass(each[0] - age, 0);
            }
            age = each[0];
            is("GRADE with an AGE of " + age, hall.ofLot(hall.cut(0, 1), 3), each[1]);
        }
        is("GRADE stays as it was CUT", hall.ofLot(0, 3), 0);
    }

    private static void lifeAsItIsCut() {
        for (int cultivar = 0; cultivar < 3; cultivar++) {
            int last = FRESH[cultivar] / 2;
            int[] ages = {1, last - 1, last, last + 1, last + 40};
            Bloomclock hall = oneShortOfReady(cultivar);
            hall.pass(1, 1);
            int age = 0;
            for (int each : ages) {
                for (; age < each; age++) {
                    hall.pass(1, 0);
                }
                is("LIFE, CUT with an AGE of " + age, hall.ofLot(hall.cut(0, 1), 4),
                        age <= last ? FRESH[cultivar] - 2 * age : 0);
            }
            Bloomclock fresh = oneShortOfReady(cultivar);
            fresh.pass(1, 1);
            is("LIFE of fresh ones", fresh.ofLot(fresh.cut(0, 1), 4), FRESH[cultivar]);
        }
    }

    private static void bucketsOfTwentyStems() {
        int[][] due = {{1, 1}, {2, 1}, {19, 1}, {20, 1}, {21, 2}, {39, 2}, {40, 2}, {41, 3}, {199, 10}, {200, 10}};
        for (int[] each : due) {
            Bloomclock hall = withLot(each[0]);
            is("BUCKETS of " + each[0] + " STEMS", hall.ofLot(0, 5), each[1]);
            is("the POOL behind it", hall.many(8), 60 - each[1]);
            is("PLANTS behind it", hall.ofCrop(0, 2), 200 - each[0]);
        }
    }

    private static void thePoolToItsEnd() {
        Bloomclock hall = new Bloomclock();
        hall.grower();
        for (int i = 0; i < 8; i++) {
            hall.plant(0, 0, 200);
        }
        hall.pass(12, 5);
        for (int i = 0; i < 6; i++) {
            is("cut", hall.cut(i, 200), i);
        }
        is("an empty POOL", hall.many(8), 0);
        refuses("no BUCKET for a stem", hall, REFUSED, () -> hall.cut(6, 1));
        hall.clear(3, false);
        is("ten come back", hall.many(8), 10);
        is("all ten are taken again", hall.cut(6, 200), 6);
        is("an empty POOL", hall.many(8), 0);
        refuses("no BUCKET for a stem", hall, REFUSED, () -> hall.cut(7, 1));
        hall.buyer(0);
        hall.presell(0, 0, 1, 1);
        is("BUCKETS of a BUYER are not in the POOL", hall.many(8), 0);
        is("back", hall.back(0, 1), 1);
        is("one BUCKET", hall.cut(7, 20), 7);
    }

    private static void coinsOfGrowersBelowZero() {
        Bloomclock hall = new Bloomclock();
        hall.grower();
        hall.grower();
        hall.lamps(0, 1);
        hall.lamps(1, 3);
        hall.pass(33, 0);
        is("100 less 33 times 3", hall.ofGrower(1, 0), 1);
        hall.pass(1, 0);
        is("below 0", hall.ofGrower(1, 0), -2);
        is("100 less 34", hall.ofGrower(0, 0), 66);
        is("paid to nobody", hall.many(9), 0);
        hall.lamps(1, 0);
        hall.pass(48, 0);
        is("without LAMPS nothing is paid", hall.ofGrower(1, 0), -2);
        hall.pass(18, 0);
        is("its last COIN", hall.ofGrower(0, 0), 0);
        hall.pass(1, 0);
        is("below 0", hall.ofGrower(0, 0), -1);
    }

    // ---- section 2: an hour

    private static void hoursAndDays() {
        Bloomclock hall = withLot(10);
        is("HOUR", hall.many(0), 12);
        hall.bring(0, 1, 1);
        is("BROUGHT on this DAY", hall.ofGrower(0, 4), 10);
        hall.pass(11, 0);
        is("HOUR 23 is of that DAY", hall.ofGrower(0, 4), 10);
        hall.pass(1, 0);
        is("HOUR", hall.many(0), 24);
        is("HOUR 24 is of the next one", hall.ofGrower(0, 4), 0);
        hall.clock();
        hall.bring(0, 1, 1);
        hall.pass(23, 0);
        is("HOUR 47 is of that DAY", hall.ofGrower(0, 4), 10);
        hall.pass(1, 0);
        is("HOUR 48 is of the next one", hall.ofGrower(0, 4), 0);
        hall.clock();
        hall.bring(0, 1, 1);
        hall.pass(48, 0);
        is("two DAYS in one call", hall.ofGrower(0, 4), 0);
        is("HOUR", hall.many(0), 96);
        Bloomclock first = new Bloomclock();
        is("HOUR 0 at first", first.many(0), 0);
        first.pass(1, 0);
        is("1 more", first.many(0), 1);
        first.pass(48, 0);
        is("48 more", first.many(0), 49);
    }

    private static void lightOfEachHour() {
        for (int light = 0; light <= 9; light++) {
            for (int lamps = 0; lamps <= 3; lamps++) {
                Bloomclock hall = new Bloomclock();
                hall.grower();
                hall.lamps(0, lamps);
                hall.plant(0, 2, 1);
                hall.pass(2, light);
                is("SUM of 2 HOURS", hall.ofCrop(0, 3), 2 * (light + lamps));
                is("LIGHT from now on", hall.readyIn(0), hoursFor(120 - 2 * (light + lamps), light + lamps));
            }
        }
    }

    private static int hoursFor(int sum, int each) {
        for (int hours = 0; hours <= 120; hours++) {
            if (hours * each >= sum) {
                return hours;
            }
        }
        return -1;
    }

    /** A hall with LOTS 0, 1, 2 in COLD, HALL and DOCK, of LIFE 6 each, and a TROLLEY of it. */
    private static Bloomclock withLivesOfSix() {
        Bloomclock hall = withLot(1);
        hall.pass(42, 0);
        for (int place = 0; place < 3; place++) {
            hall.move(hall.cut(0, 2), place);
        }
        hall.buyer(0);
        hall.presell(1, 0, 1, 1);
        hall.speed(1);
        hall.presell(2, 0, 1, 1);
        hall.presell(3, 0, 1, 1);
        hall.presell(1, 0, 1, 1);
        return hall;
    }

    private static void livesFallToZero() {
        Bloomclock hall = withLivesOfSix();
        is("SOLD", hall.ofLot(1, 7), 2);
        int[][] due = {{5, 3, 0}, {4, 0, 0}, {3, 0, 0}, {2, 0, 0}, {1, 0, 0}, {0, 0, 0}, {0, 0, 0}};
        hall.undo();
        for (int[] each : due) {
            hall.pass(1, 0);
            for (int place = 0; place < 3; place++) {
                is("LIFE in place " + place, hall.ofLot(1 + place, 4), each[place]);
            }
        }
        Bloomclock rail = withLivesOfSix();
        is("LIFE of the LOT", rail.many(15), 6);
        rail.pass(1, 0);
        is("LIFE on the rail, 3 less", rail.many(15), 3);
        rail.pass(1, 0);
        is("to 0", rail.many(15), 0);
        rail.pass(1, 0);
        is("0 at least", rail.many(15), 0);
        is("one is left", rail.many(7), 1);
        is("LIFE of a LOT without STEMS stays", rail.ofLot(1, 4), 6);
    }

    private static void livesBelowWhatAnHourTakes() {
        Bloomclock hall = withLot(1);
        hall.pass(43, 0);
        for (int place = 0; place < 3; place++) {
            hall.move(hall.cut(0, 1), place);
        }
        hall.pass(1, 0);
        is("4 less 1", hall.ofLot(1, 4), 3);
        is("4 less 3", hall.ofLot(2, 4), 1);
        is("4 less 6 is 0 at least", hall.ofLot(3, 4), 0);
        hall.buyer(0);
        hall.buyer(0);
        hall.speed(1);
        hall.presell(2, 0, 1, 1);
        hall.presell(1, 0, 1, 1);
        is("the least LIFE", hall.many(15), 1);
        hall.undo();
        hall.undo();
        hall.presell(1, 0, 1, 1);
        hall.presell(2, 0, 1, 1);
        is("the least LIFE", hall.many(15), 1);
        hall.pass(1, 0);
        is("1 less 3 on the rail is 0 at least", hall.many(15), 0);
    }

    private static void livesOfSoldAndClearedStay() {
        Bloomclock hall = withLot(5);
        for (int i = 0; i < 3; i++) {
            hall.cut(0, 5);
        }
        hall.buyer(0);
        hall.presell(0, 0, 5, 1);
        hall.presell(1, 0, 4, 1);
        hall.clear(2, false);
        hall.bring(3, 90, 1);
        hall.pass(2, 0);
        is("SOLD", hall.ofLot(0, 4), 90);
        is("one stem is left", hall.ofLot(1, 4), 84);
        is("CLEARED", hall.ofLot(2, 4), 90);
        is("in the ROW", hall.ofLot(3, 4), 84);
    }

    // ---- section 3: the row, marks, orders

    /** Lots 0 to 4 of the CULTIVAR 0: 200, 200, 99, 1 and 1 stems, of the same GROWER. */
    private static Bloomclock withFiveHundred() {
        Bloomclock hall = new Bloomclock();
        hall.grower();
        for (int i = 0; i < 3; i++) {
            hall.plant(0, 0, 200);
        }
        hall.plant(0, 1, 200);
        hall.pass(18, 5);
        hall.cut(0, 200);
        hall.cut(1, 200);
        hall.cut(2, 99);
        hall.cut(2, 1);
        hall.cut(2, 1);
        hall.cut(3, 200);
        return hall;
    }

    private static void theQuotaAtFirst() {
        Bloomclock hall = withFiveHundred();
        is("200", hall.bring(0, 1, 1), 1);
        is("400", hall.bring(1, 1, 1), 2);
        is("499", hall.bring(2, 1, 1), 3);
        is("just 500", hall.bring(3, 1, 1), 4);
        refuses("501", hall, REFUSED, () -> hall.bring(4, 1, 1));
        is("of another CULTIVAR", hall.bring(5, 1, 1), 5);
        is("of all CULTIVARS", hall.ofGrower(0, 4), 700);
        hall.pass(5, 0);
        refuses("HOUR 23", hall, REFUSED, () -> hall.bring(4, 1, 1));
        hall.pass(1, 0);
        is("the next DAY", hall.bring(4, 1, 1), 6);
        is("on this DAY", hall.ofGrower(0, 4), 1);
        Bloomclock again = withFiveHundred();
        again.bring(0, 1, 1);
        again.clock();
        is("BROUGHT again", again.bring(0, 1, 1), 1);
        is("counts again", again.ofGrower(0, 4), 400);
        again.clock();
        is("a third time: 600", answer(() -> again.bring(0, 1, 1)), "throws.IllegalStateException");
        is("with 99: 499", again.bring(2, 1, 1), 1);
    }

    private static void quotasOfNoneAndOfOne() {
        Bloomclock none = withLot(1);
        none.vote(0, 0);
        is("the QUOTA", none.many(12), 0);
        refuses("a stem of none", none, REFUSED, () -> none.bring(0, 1, 1));
        none.vote(0, 1);
        is("a stem of one", none.bring(0, 1, 1), 1);
        Bloomclock most = withLot(1);
        most.vote(0, 999);
        is("the greatest QUOTA", most.many(12), 999);
    }

    private static void quotaOfEachCultivar() {
        for (int cultivar = 0; cultivar < 3; cultivar++) {
            Bloomclock hall = grown();
            hall.vote(cultivar, 7);
            for (int other = 0; other < 3; other++) {
                int lot = hall.cut(other, 8);
                String inTheRow = String.valueOf(hall.many(6) + 1);
                is("8 of " + other + " by a QUOTA of 7 of " + cultivar, answer(() -> hall.bring(lot, 1, 1)),
                        other == cultivar ? "throws.IllegalStateException" : inTheRow);
            }
            is("just 7 of " + cultivar, hall.bring(hall.cut(cultivar, 7), 1, 1), 3);
            is("BROUGHT of all CULTIVARS", hall.ofGrower(0, 4), 23);
        }
    }

    private static void quotaOfEachGrower() {
        Bloomclock hall = withLot(30);
        hall.grower();
        hall.plant(1, 0, 100);
        hall.pass(12, 5);
        hall.cut(1, 30);
        hall.cut(1, 1);
        hall.vote(0, 30);
        is("30 of one GROWER", hall.bring(0, 1, 1), 1);
        is("30 of the other one", hall.bring(1, 1, 1), 2);
        refuses("31 of it", hall, REFUSED, () -> hall.bring(2, 1, 1));
        is("BROUGHT of one", hall.ofGrower(0, 4), 30);
        is("BROUGHT of the other one", hall.ofGrower(1, 4), 30);
    }

    /** What the clock sells of a LOT of LIFE 90 that is told so, to an ORDER that asks for so much. */
    private static int soldShown(int told, int hoursInTheRow, int shown) {
        Bloomclock hall = withLot(5);
        hall.buyer(0);
        hall.order(0, 0, 2, shown, 0, 9, 5);
        hall.bring(0, told, 1);
        if (hoursInTheRow > 0) {
            hall.pass(hoursInTheRow, 0);
        }
        return hall.clock();
    }

    private static void shownIsTheSmallerOne() {
        is("told 80 of 90, 80 is asked", soldShown(80, 0, 80), 5);
        is("told 80 of 90, 81 is asked", soldShown(80, 0, 81), 0);
        is("told 90 of 90, 90 is asked", soldShown(90, 0, 90), 5);
        is("told 90 of 90, 91 is asked", soldShown(90, 0, 91), 0);
        is("told 110 of 90, 90 is asked", soldShown(110, 0, 90), 5);
        is("told 110 of 90, 91 is asked", soldShown(110, 0, 91), 0);
        is("LIFE 87 as it is sold, 87 is asked", soldShown(90, 1, 87), 5);
        is("LIFE 87 as it is sold, 88 is asked", soldShown(90, 1, 88), 0);
        is("told 0, 0 is asked", soldShown(0, 0, 0), 5);
        is("told 0, 1 is asked", soldShown(0, 0, 1), 0);
        is("LIFE 0, 0 is asked", soldShown(50, 40, 0), 5);
        is("LIFE 0, 1 is asked", soldShown(50, 40, 1), 0);
    }

    /** A hall with a LOT in the ROW, told its LIFE, of a GROWER with that MARK. */
    private static Bloomclock withMark(int mark) {
        Bloomclock hall = withLot(10);
        boolean isOdd = mark % 2 == 1;
        if (isOdd) {
            hall.clear(hall.cut(0, 1), true);
        }
        hall.bring(0, 90, 1);
        int target = mark;
        while (target < 50) {
            target += 10;
        }
        for (int now = isOdd ? 51 : 50; now < target; now += 2) {
            hall.inspect(0);
        }
        for (int now = target; now > mark; now -= 10) {
            hall.pass(1, 0);
            hall.inspect(0);
        }
        return hall;
    }

    private static void marksOfInspections() {
        int[][] less = {{50, 40}, {11, 1}, {10, 0}, {9, 0}, {8, 0}, {1, 0}, {0, 0}, {100, 90}, {99, 89}};
        for (int[] each : less) {
            Bloomclock hall = withMark(each[0]);
            is("the MARK", hall.ofGrower(0, 2), each[0]);
            hall.pass(1, 0);
            is("more was told", hall.inspect(0), each[1]);
            is("the MARK", hall.ofGrower(0, 2), each[1]);
        }
        int[][] more = {{0, 2}, {1, 3}, {50, 52}, {97, 99}, {98, 100}, {99, 100}, {100, 100}};
        for (int[] each : more) {
            Bloomclock hall = withMark(each[0]);
            is("the LIFE was told", hall.inspect(0), each[1]);
            is("the MARK", hall.ofGrower(0, 2), each[1]);
        }
    }

    private static void whatIsToldAndTheLife() {
        int[][] due = {{91, 40, 90}, {110, 40, 90}, {90, 52, 90}, {89, 52, 89}, {0, 52, 0}};
        for (int[] each : due) {
            Bloomclock hall = withLot(10);
            hall.bring(0, each[0], 7);
            is("told " + each[0] + " of 90", hall.inspect(0), each[1]);
            is("what is told from then on", hall.ofLot(0, 8), each[2]);
            is("the MINIMUM stays", hall.ofLot(0, 9), 7);
            is("it stays in the ROW", hall.ofLot(0, 7), 1);
            is("the next INSPECTION finds the LIFE", hall.inspect(0), each[1] + 2);
        }
    }

    private static void ordersThatFit() {
        Bloomclock hall = withLot(9);
        hall.pass(11, 0);
        hall.cut(0, 9);
        hall.pass(10, 0);
        hall.cut(0, 9);
        hall.buyer(0);
        for (int grade = 0; grade <= 2; grade++) {
            hall.order(0, 0, grade, 0, 0, 10 + grade, 1);
        }
        for (int lot = 0; lot < 3; lot++) {
            is("GRADE", hall.ofLot(lot, 3), lot);
        }
        is("GRADE 0 fits all", soldOf(hall, 0), 3);
        is("GRADE 1 fits 1 and 2", soldOf(hall, 1), 2);
        is("GRADE 2 fits 2", soldOf(hall, 2), 1);
        is("the one that asks for GRADE 2", hall.sale(0, 3), 12);
        for (int[] each : new int[][] {{49, 1}, {50, 1}, {51, 0}, {0, 1}, {100, 0}}) {
            Bloomclock marks = withLot(1);
            marks.buyer(0);
            marks.order(0, 0, 2, 0, each[0], 5, 1);
            is("a MARK of 50, " + each[0] + " is asked", soldOf(marks, 0), each[1]);
        }
        cultivarsThatFit();
    }

    /** What the clock sells of that LOT; all that was sold is UNDONE, unless it was one stem. */
    private static int soldOf(Bloomclock hall, int lot) {
        hall.bring(lot, 0, 1);
        int sold = hall.clock();
        for (int i = 0; i < sold && sold > 1; i++) {
            hall.undo();
        }
        return sold;
    }

    private static void cultivarsThatFit() {
        for (int ordered = 0; ordered < 3; ordered++) {
            Bloomclock hall = grown();
            hall.buyer(0);
            hall.order(0, ordered, 2, 0, 0, 5, 3);
            for (int cultivar = 0; cultivar < 3; cultivar++) {
                hall.bring(hall.cut(cultivar, 1), 0, 1);
                is("an ORDER of " + ordered + ", a LOT of " + cultivar, hall.clock(), ordered == cultivar ? 1 : 0);
            }
        }
    }

    // ---- section 4: the clock, sales, undo

    /** The price at which a BUYER of that LATENCY, EVENED so much, takes at that LIMIT; -1, if it does not. */
    private static int priceOf(int latency, int evened, int limit, int minimum) {
        Bloomclock hall = withLot(5);
        hall.buyer(latency);
        hall.even(0, evened);
        order(hall, 0, limit, 3);
        hall.bring(0, 90, minimum);
        int sold = hall.clock();
        is("it takes all or none", sold == 3 || sold == 0, true);
        is("it is not in the ROW any more", hall.many(6), 0);
        return sold == 0 ? -1 : hall.sale(0, 3);
    }

    private static void pricesFromTheStartToOne() {
        is("LIMIT 99 at the TICK 0", priceOf(0, 0, 99, 1), 99);
        is("LIMIT 98 at the TICK 1", priceOf(0, 0, 98, 1), 98);
        is("LIMIT 99, 9 late", priceOf(9, 0, 99, 1), 90);
        is("LIMIT 1", priceOf(0, 0, 1, 1), 1);
        is("LIMIT 1, 1 late: a PRICE of 0", priceOf(1, 0, 1, 1), -1);
        is("LIMIT 2, 1 late", priceOf(1, 0, 2, 1), 1);
        is("LIMIT 10, 9 late", priceOf(9, 0, 10, 1), 1);
        is("LIMIT 9, 9 late: a PRICE of 0", priceOf(9, 0, 9, 1), -1);
        is("LIMIT 1, 9 late: a PRICE of -8", priceOf(9, 0, 1, 1), -1);
    }

    private static void latencyAndEvened() {
        for (int latency = 0; latency <= 9; latency++) {
            for (int evened = 0; evened <= 9; evened++) {
                int late = latency > evened ? latency - evened : 0;
                is("LATENCY " + latency + ", EVENED by " + evened, priceOf(latency, evened, 50, 1), 50 - late);
            }
        }
    }

    private static void theMinimumAndThePrice() {
        is("the PRICE is the MINIMUM", priceOf(0, 0, 40, 40), 40);
        is("the PRICE is 1 below the MINIMUM", priceOf(0, 0, 40, 41), -1);
        is("the PRICE is 1 above the MINIMUM", priceOf(0, 0, 40, 39), 40);
        is("the PRICE as it is by then is the MINIMUM", priceOf(5, 0, 40, 35), 35);
        is("the PRICE as it is by then is below it", priceOf(5, 0, 40, 36), -1);
        is("EVENED", priceOf(5, 4, 40, 39), 39);
        is("a MINIMUM of 99", priceOf(0, 0, 99, 99), 99);
        is("a MINIMUM of 99, LIMIT 98", priceOf(0, 0, 98, 99), -1);
        Bloomclock hall = withLot(30);
        hall.buyer(9);
        hall.buyer(0);
        order(hall, 0, 50, 3);
        order(hall, 1, 40, 3);
        hall.bring(0, 90, 41);
        is("the smallest STAMP takes at 41", hall.clock(), 3);
        order(hall, 0, 50, 3);
        hall.bring(0, 90, 42);
        is("nobody takes at 41", hall.clock(), 0);
        is("the LOT is HELD again", hall.ofLot(0, 7), 0);
    }

    private static void theSmallestStampFirst() {
        Bloomclock hall = withLot(9);
        hall.buyer(3);
        hall.buyer(0);
        order(hall, 0, 50, 1);
        order(hall, 1, 47, 2);
        order(hall, 1, 48, 3);
        order(hall, 0, 50, 1);
        hall.bring(0, 90, 1);
        is("clock", hall.clock(), 7);
        int[][] due = {{1, 48, 3}, {0, 47, 1}, {0, 47, 1}, {1, 47, 2}};
        for (int i = 0; i < due.length; i++) {
            is("the BUYER", hall.sale(3 - i, 1), due[i][0]);
            is("the PRICE", hall.sale(3 - i, 3), due[i][1]);
            is("the STEMS", hall.sale(3 - i, 2), due[i][2]);
        }
    }

    private static void theClockStartsAnewTenAbove() {
        Bloomclock hall = withLot(20);
        hall.buyer(9);
        hall.buyer(0);
        order(hall, 0, 49, 1);
        order(hall, 0, 49, 2);
        order(hall, 1, 40, 3);
        hall.bring(0, 90, 1);
        is("a LIMIT 9 above the PRICE presses again", hall.clock(), 6);
        is("at its PRICE", hall.sale(2, 3) + hall.sale(1, 3) + hall.sale(0, 3), 120);
        is("the smallest BUYER first", hall.sale(0, 1), 1);
        Bloomclock high = withLot(20);
        high.buyer(0);
        high.buyer(9);
        int[] limits = {99, 99, 95, 90, 89, 88};
        for (int limit : limits) {
            order(high, 0, limit, 1);
        }
        order(high, 1, 99, 1);
        order(high, 1, 99, 1);
        high.bring(0, 90, 1);
        is("99 at most", high.clock(), 8);
        int[] due = {99, 99, 95, 90, 90, 90, 89, 88};
        for (int i = 0; i < 8; i++) {
            is("the PRICE of the SALE " + i, high.sale(7 - i, 3), due[i]);
        }
    }

    /** What an ORDER of that LIMIT for so many stems takes of a LOT of 100, for all COINS that there are. */
    private static int taken(int coins, int limit, int stems) {
        Bloomclock hall = withLot(200);
        hall.buyer(0);
        if (coins < 2000) {
            hall.presell(0, 0, 20, 99);
            hall.presell(0, 0, (16 - coins) / 2, 2);
        }
        is("its COINS", hall.ofBuyer(0, 0), coins);
        order(hall, 0, limit, stems);
        hall.bring(0, 90, 1);
        int sold = hall.clock();
        is("what it still wants", hall.wants(0), stems - sold);
        return sold;
    }

    private static void asManyAsItsCoinsPay() {
        is("all 2000 COINS", taken(2000, 40, 50), 50);
        is("51 for 2040", taken(2000, 40, 51), 50);
        is("49 for 2009", taken(2000, 41, 49), 48);
        is("48 for 1968", taken(2000, 41, 48), 48);
        is("2 COINS, a PRICE of 2", taken(2, 2, 5), 1);
        is("2 COINS, a PRICE of 1", taken(2, 1, 5), 2);
        is("2 COINS, a PRICE of 3: OUT", taken(2, 3, 5), 0);
        is("0 COINS: OUT", taken(0, 1, 5), 0);
        is("-2 COINS: OUT", taken(-2, 1, 5), 0);
        is("-2 COINS, one stem: OUT", taken(-2, 2, 1), 0);
    }

    private static void asManyAsThereAreAndAreWanted() {
        Bloomclock hall = withLot(10);
        hall.buyer(0);
        order(hall, 0, 20, 9);
        hall.bring(0, 90, 1);
        is("one less than there are", hall.clock(), 9);
        is("one is left: HELD", hall.ofLot(0, 7), 0);
        is("it wants none", hall.wants(0), 0);
        hall.bring(0, 90, 1);
        is("one that wants none takes none", hall.clock(), 0);
        order(hall, 0, 20, 1);
        hall.bring(0, 90, 1);
        is("the last one", hall.clock(), 1);
        is("SOLD", hall.ofLot(0, 7), 2);
        is("no STEMS", hall.ofLot(0, 2), 0);
        is("no BUCKETS", hall.ofLot(0, 5), 0);
        int lot = hall.cut(0, 10);
        order(hall, 0, 20, 11);
        hall.bring(lot, 90, 1);
        is("one more than there are", hall.clock(), 10);
        is("it still wants one", hall.wants(2), 1);
        is("SOLD", hall.ofLot(lot, 7), 2);
    }

    private static void outUntilTheClockIsDone() {
        Bloomclock hall = withLot(200);
        hall.plant(0, 1, 100);
        hall.buyer(0);
        hall.presell(0, 0, 20, 99);
        hall.pass(18, 5);
        hall.cut(1, 10);
        is("18 COINS", hall.ofBuyer(0, 0), 18);
        order(hall, 0, 19, 1);
        order(hall, 0, 18, 1);
        hall.order(0, 1, 2, 0, 0, 18, 1);
        hall.bring(0, 90, 1);
        hall.bring(1, 90, 1);
        is("OUT with all its ORDERS", hall.clock(), 0);
        is("it still wants", hall.wants(0) + hall.wants(1), 2);
        is("not OUT for the next LOT", hall.clock(), 1);
        is("its last COINS", hall.ofBuyer(0, 0), -2);
    }

    private static void outTheClockStartsFromTheSamePrice() {
        Bloomclock hall = withLot(200);
        for (int i = 0; i < 4; i++) {
            hall.buyer(0);
        }
        for (int i = 0; i < 3; i++) {
            hall.presell(0, i, 20, 99);
            order(hall, i, 90 + i, 1);
        }
        order(hall, 3, 89, 2);
        is("what it would fetch", hall.wouldFetch(0), 89);
        is("the best MINIMUM", hall.bestMinimum(0), 89);
        hall.bring(0, 90, 89);
        is("three are OUT, the fourth takes", hall.clock(), 2);
        is("the PRICE", hall.sale(0, 3), 89);
        Bloomclock all = withLot(200);
        for (int i = 0; i < 4; i++) {
            all.buyer(0);
            all.presell(0, i, 20, 99);
            order(all, i, 90 + i, 1);
        }
        is("what it would fetch", all.wouldFetch(0), -1);
        all.bring(0, 90, 1);
        is("all four are OUT", all.clock(), 0);
        is("HELD again", all.ofLot(0, 7), 0);
    }

    private static void theFeeIsRoundedDown() {
        int[][] due = {{1, 1, 0}, {19, 1, 0}, {1, 19, 0}, {20, 1, 1}, {39, 1, 1}, {40, 1, 2}, {3, 33, 4}, {4, 25, 5},
            {7, 17, 5}, {50, 40, 100}, {20, 99, 99}};
        for (int[] each : due) {
            Bloomclock hall = withLot(50);
            hall.buyer(0);
            int paid = each[0] * each[1];
            int buckets = (each[0] + 19) / 20;
            is("what the GROWER gets", hall.presell(0, 0, each[0], each[1]), paid - each[2]);
            is("the GROWER", hall.ofGrower(0, 0), 100 + paid - each[2]);
            is("the HALL", hall.many(9), each[2] + 2 * buckets);
            is("the BUYER", hall.ofBuyer(0, 0), 2000 - paid - 2 * buckets);
        }
    }

    private static void bucketsOfASale() {
        int[][] due = {{1, 1}, {19, 1}, {20, 1}, {21, 2}, {40, 2}, {41, 3}, {60, 3}};
        for (int[] each : due) {
            Bloomclock hall = withLot(60);
            hall.buyer(0);
            hall.presell(0, 0, each[0], 1);
            is("BUCKETS for " + each[0], hall.ofBuyer(0, 7), each[1]);
            is("those that are left", hall.ofLot(0, 5), 3 - each[1]);
            is("the POOL stays", hall.many(8), 57);
        }
        Bloomclock hall = withLot(41);
        hall.buyer(0);
        hall.presell(0, 0, 1, 1);
        hall.presell(0, 0, 1, 1);
        is("one is left", hall.ofLot(0, 5), 1);
        hall.presell(0, 0, 21, 1);
        is("those that there are at most", hall.ofBuyer(0, 7), 3);
        is("none is left", hall.ofLot(0, 5), 0);
        int coins = hall.ofBuyer(0, 0);
        hall.presell(0, 0, 18, 1);
        is("none of none", hall.ofBuyer(0, 7), 3);
        is("no DEPOSIT", hall.ofBuyer(0, 0), coins - 18);
        is("all DEPOSITS and one FEE", hall.many(9), 6 + 1);
    }

    private static void depositAlsoBelowZero() {
        Bloomclock hall = withLot(50);
        hall.buyer(0);
        order(hall, 0, 40, 50);
        hall.bring(0, 90, 1);
        is("for all its COINS", hall.clock(), 50);
        is("the DEPOSIT goes below 0", hall.ofBuyer(0, 0), -6);
        is("three BUCKETS", hall.ofBuyer(0, 7), 3);
        is("back", hall.back(0, 3), 60);
        is("0 again", hall.ofBuyer(0, 0), 0);
    }

    private static void trolleysHaveTheLifeOfTheLot() {
        Bloomclock hall = withLot(3);
        hall.buyer(0);
        hall.pass(29, 0);
        hall.presell(0, 0, 1, 1);
        is("LIFE 3", hall.many(15), 3);
        hall.undo();
        hall.pass(1, 0);
        hall.presell(0, 0, 1, 1);
        is("LIFE 0 is not NONE", hall.many(15), 0);
        hall.undo();
        is("an empty rail has NONE", hall.many(15), -1);
        Bloomclock told = withLot(3);
        told.buyer(0);
        order(told, 0, 9, 1);
        told.bring(0, 4, 1);
        told.clock();
        is("the LIFE, if less is TOLD", told.many(15), 90);
        order(told, 0, 9, 1);
        told.pass(1, 0);
        told.bring(0, 110, 1);
        told.clock();
        is("the LIFE, if more is TOLD", told.many(15), 87);
    }

    private static void undoTakesAllBack() {
        Bloomclock hall = withLot(30);
        hall.buyer(2);
        order(hall, 0, 30, 30);
        hall.bring(0, 90, 1);
        hall.clock();
        is("SOLD", hall.ofLot(0, 7), 2);
        hall.cut(0, 1);
        hall.presell(1, 0, 1, 50);
        is("the latest one first", hall.undo(), 1);
        is("undo", hall.undo(), 30);
        is("HELD, as it was SOLD", hall.ofLot(0, 7), 0);
        is("not in the ROW", hall.row(0), -1);
        int[] lot = {0, 0, 30, 0, 90, 2, 1, 0, 90, 1};
        for (int what = 0; what <= 9; what++) {
            is("ofLot " + what, hall.ofLot(0, what), lot[what]);
        }
        int[] buyer = {2000, 2, 0, -1, 0, 0, 0, 0, 0};
        for (int what = 0; what <= 8; what++) {
            is("ofBuyer " + what, hall.ofBuyer(0, what), buyer[what]);
        }
        int[] grower = {100, 0, 50, 0, 30};
        for (int what = 0; what <= 4; what++) {
            is("ofGrower " + what, hall.ofGrower(0, what), grower[what]);
        }
        is("what the ORDER wants", hall.wants(0), 30);
        is("the HALL", hall.many(9), 0);
        is("SOLD ever", hall.many(11), 0);
        is("no TROLLEY", hall.many(7), 0);
        is("it can be BROUGHT again", hall.bring(0, 90, 1), 1);
        is("and sold again", hall.clock(), 30);
    }

    private static void undoOfOneThatIsNotSoldOut() {
        Bloomclock hall = withLot(30);
        hall.buyer(0);
        hall.presell(0, 0, 29, 10);
        long before = hall.digest();
        hall.presell(0, 0, 1, 10);
        is("SOLD", hall.ofLot(0, 7), 2);
        is("undo", hall.undo(), 1);
        is("as ahead of it", hall.digest(), before);
        is("one stem is HELD", hall.ofLot(0, 7), 0);
        hall.bring(0, 1, 1);
        is("undo of one in the ROW", hall.undo(), 29);
        is("it stays there", hall.ofLot(0, 7), 1);
        is("at its place", hall.row(0), 0);
        is("with its STEMS", hall.ofLot(0, 2), 30);
    }

    private static void undoTakesTheLatestTrolley() {
        Bloomclock hall = withLot(30);
        hall.pass(1, 0);
        hall.cut(0, 20);
        hall.buyer(0);
        hall.buyer(0);
        hall.presell(0, 0, 1, 1);
        hall.presell(1, 1, 2, 1);
        hall.presell(0, 0, 4, 1);
        hall.undo();
        is("two are left", hall.many(7), 2);
        hall.undo();
        is("one is left", hall.many(7), 1);
        is("the first one: LIFE 87", hall.many(15), 87);
        hall.presell(1, 1, 8, 1);
        hall.pass(1, 0);
        is("the first one is brought", hall.ofBuyer(0, 4), 1);
        is("the one behind those that are UNDONE is brought", hall.ofBuyer(1, 4), 8);
    }

    private static void noOrderIsLessByPreselling() {
        Bloomclock hall = withLot(30);
        hall.buyer(0);
        order(hall, 0, 10, 5);
        order(hall, 0, 99, 30);
        hall.presell(0, 0, 5, 10);
        is("it wants as many", hall.wants(0), 5);
        is("it wants as many", hall.wants(1), 30);
        hall.undo();
        is("it wants no more", hall.wants(0), 5);
        is("it wants no more", hall.wants(1), 30);
    }

    // ---- section 5: the rail, bouquets, buckets, clearing, votes

    private static void theSpeedOfTheRail() {
        for (int trolleys = 0; trolleys <= 11; trolleys++) {
            for (int speed = 0; speed <= 9; speed++) {
                Bloomclock hall = withLot(20);
                hall.buyer(0);
                for (int i = 0; i < trolleys; i++) {
                    hall.presell(0, 0, 1, 1);
                }
                int each = speed == 0 ? 2 : speed;
                if (speed > 0) {
                    is("2 at first", hall.speed(speed), 2);
                }
                is("in an HOUR", hall.pass(1, 0), Math.min(each, trolleys));
                is("in the STOCK", hall.ofBuyer(0, 4), Math.min(each, trolleys));
                is("in two HOURS more", hall.pass(2, 0), Math.min(2 * each, trolleys - Math.min(each, trolleys)));
                is("on the rail", hall.many(7), Math.max(0, trolleys - 3 * each));
            }
        }
    }

    /** The STOCK of a BUYER whose TROLLEY is brought at HOUR 13, with that LEAVING HOUR. */
    private static int stockOfOneWhoLeaves(int leaving) {
        Bloomclock hall = withLot(20);
        hall.buyer(0);
        hall.presell(0, 0, 7, 1);
        hall.leave(0, leaving);
        is("brought, MISSED or not", hall.pass(1, 0), 1);
        is("no TROLLEY is left", hall.many(7), 0);
        is("WASTE or STOCK", hall.many(10) + hall.ofBuyer(0, 4), 7);
        return hall.ofBuyer(0, 4);
    }

    private static void missedOnes() {
        is("a LEAVING HOUR of 0", stockOfOneWhoLeaves(0), 0);
        is("the HOUR ahead of it", stockOfOneWhoLeaves(12), 0);
        is("just that HOUR", stockOfOneWhoLeaves(13), 7);
        is("the HOUR behind it", stockOfOneWhoLeaves(14), 7);
        is("NONE", stockOfOneWhoLeaves(-1), 7);
        is("9999", stockOfOneWhoLeaves(9999), 7);
    }

    /** Which of two TROLLEYS is brought first, with those LEAVING HOURS: the BUYER. */
    private static int firstBrought(int leavingOfFirst, int leavingOfSecond) {
        Bloomclock hall = withLot(20);
        hall.buyer(0);
        hall.buyer(0);
        hall.speed(1);
        hall.leave(1, leavingOfFirst);
        hall.leave(0, leavingOfSecond);
        hall.presell(0, 1, 3, 1);
        hall.presell(0, 0, 4, 1);
        hall.pass(1, 0);
        int first = hall.ofBuyer(1, 4) > 0 ? 1 : 0;
        is("only one is brought", hall.ofBuyer(0, 4) + hall.ofBuyer(1, 4), first == 1 ? 3 : 4);
        return first;
    }

    private static void theOrderOfTheRail() {
        is("of several as they came", firstBrought(20, 20), 1);
        is("the smallest one", firstBrought(20, 19), 0);
        is("the smallest one", firstBrought(19, 20), 1);
        is("9999 is ahead of NONE", firstBrought(-1, 9999), 0);
        is("9999 is ahead of NONE", firstBrought(9999, -1), 1);
        is("9998 is ahead of 9999", firstBrought(9999, 9998), 0);
        is("9999 as they came", firstBrought(9999, 9999), 1);
        is("NONE as they came", firstBrought(-1, -1), 1);
        Bloomclock hall = withLot(20);
        hall.buyer(0);
        hall.buyer(0);
        hall.speed(1);
        hall.leave(0, 0);
        hall.leave(1, 13);
        hall.presell(0, 1, 3, 1);
        hall.presell(0, 0, 4, 1);
        is("a MISSED one is the smallest, and counts", hall.pass(1, 0), 1);
        is("its STEMS are WASTE", hall.many(10), 4);
        is("the other one is MISSED by then", hall.pass(1, 0), 1);
        is("its STEMS are WASTE, too", hall.many(10), 7);
    }

    /** How many bouquets are BOUND of that STOCK, of so many at most. */
    private static int bound(int ofZero, int ofOne, int ofTwo, int most) {
        Bloomclock hall = grown();
        int[] stock = {ofZero, ofOne, ofTwo};
        hall.buyer(0);
        hall.speed(3);
        for (int cultivar = 0; cultivar < 3; cultivar++) {
            if (stock[cultivar] > 0) {
                hall.presell(hall.cut(cultivar, stock[cultivar]), 0, stock[cultivar], 1);
            }
        }
        hall.pass(1, 0);
        int bound = hall.bind(0, most);
        is("BOUND ever", hall.ofBuyer(0, 8), bound);
        int left = hall.ofBuyer(0, 4) + hall.ofBuyer(0, 5) + hall.ofBuyer(0, 6);
        is("no STOCK goes without a bouquet", bound > 0 || left == ofZero + ofOne + ofTwo, true);
        return bound;
    }

    private static void bouquets() {
        int[][] just = {{3, 2, 1}, {5, 1, 1}, {7, 0, 1}, {5, 2, 0}, {7, 1, 0}, {9, 0, 0}};
        for (int[] each : just) {
            String stock = each[0] + ", " + each[1] + ", " + each[2];
            is("just enough: " + stock, bound(each[0], each[1], each[2], 1), 1);
            is("just enough for one: " + stock, bound(each[0], each[1], each[2], 99), 1);
            is("one of 0 lacks: " + stock, bound(each[0] - 1, each[1], each[2], 99), 0);
        }
        is("2 more of 1 don't stand for 2", bound(4, 9, 0, 99), 0);
        is("2 more of 2 don't stand for 1", bound(6, 0, 9, 99), 0);
        is("no STOCK", bound(0, 0, 0, 99), 0);
        is("as many as asked", bound(6, 4, 2, 1), 1);
        is("as many as there are", bound(6, 4, 2, 2), 2);
        is("no more than there are", bound(6, 4, 2, 3), 2);
        is("1 and 2 lack for the second one", bound(3 + 9, 2, 1, 2), 2);
        is("one of 0 lacks for the second one", bound(3 + 8, 2, 1, 2), 1);
        is("one of 1 is there for the second one", bound(3 + 7, 3, 1, 2), 2);
        bouquetsToTheMost();
    }

    private static void bouquetsToTheMost() {
        Bloomclock hall = new Bloomclock();
        hall.grower();
        int[] cultivars = {0, 0, 1, 2};
        int[] stems = {200, 103, 200, 100};
        for (int cultivar : cultivars) {
            hall.plant(0, cultivar, 200);
        }
        hall.pass(24, 5);
        hall.buyer(0);
        for (int i = 0; i < 4; i++) {
            hall.presell(hall.cut(i, stems[i]), 0, stems[i], 1);
        }
        hall.pass(2, 0);
        is("99 of the STOCK for 100", hall.bind(0, 99), 99);
        is("of 0", hall.ofBuyer(0, 4), 303 - 297);
        is("of 1", hall.ofBuyer(0, 5), 2);
        is("of 2", hall.ofBuyer(0, 6), 1);
        is("the last one", hall.bind(0, 99), 1);
        is("BOUND ever", hall.ofBuyer(0, 8), 100);
        is("of 0", hall.ofBuyer(0, 4), 3);
        is("of 1", hall.ofBuyer(0, 5), 0);
        is("of 2", hall.ofBuyer(0, 6), 0);
    }

    private static void bucketsThatComeBack() {
        Bloomclock hall = withLot(100);
        hall.buyer(0);
        hall.presell(0, 0, 100, 1);
        is("the HALL", hall.many(9), 5 + 10);
        is("one", hall.back(0, 1), 56);
        is("2 for it", hall.ofBuyer(0, 0), 2000 - 110 + 2);
        is("from the HALL", hall.many(9), 5 + 8);
        is("all that are left", hall.back(0, 4), 60);
        is("none is left", hall.ofBuyer(0, 7), 0);
        is("2 for each", hall.ofBuyer(0, 0), 1900);
        is("the FEE is left", hall.many(9), 5);
    }

    private static void marksOfGifts() {
        int[][] due = {{0, 1}, {50, 51}, {98, 99}, {99, 100}, {100, 100}};
        for (int[] each : due) {
            Bloomclock hall = withMark(each[0]);
            int lot = hall.cut(0, 1);
            hall.clear(lot, false);
            is("not GIVEN away", hall.ofGrower(0, 2), each[0]);
            hall.clear(hall.cut(0, 1), true);
            is("GIVEN away", hall.ofGrower(0, 2), each[1]);
        }
    }

    private static void clearedOnes() {
        Bloomclock hall = withLot(41);
        hall.buyer(0);
        hall.presell(0, 0, 40, 1);
        is("one stem", hall.clear(0, false), 1);
        is("WASTE", hall.many(10), 1);
        is("its last BUCKET comes back", hall.many(8), 58);
        is("no STEMS", hall.ofLot(0, 2), 0);
        is("no BUCKETS", hall.ofLot(0, 5), 0);
        is("CLEARED", hall.ofLot(0, 7), 3);
        int lot = hall.cut(0, 21);
        hall.presell(lot, 0, 1, 1);
        hall.presell(lot, 0, 1, 1);
        is("one without BUCKETS", hall.ofLot(lot, 5), 0);
        is("the POOL", hall.many(8), 56);
        is("clear", hall.clear(lot, true), 19);
        is("the POOL stays", hall.many(8), 56);
        is("WASTE", hall.many(10), 20);
    }

    private static void votesByWhatWasBrought() {
        int[][] due = {{0, 0}, {29, 0}, {30, 1}, {31, 1}, {999, 1}};
        for (int[] each : due) {
            Bloomclock hall = withLot(30);
            hall.bring(0, 1, 1);
            is("BROUGHT 30, a QUOTA of " + each[0], hall.vote(0, each[0]), each[1]);
            is("the QUOTA from then on", hall.many(12), each[1] == 1 ? each[0] : 500);
            is("of another CULTIVAR", hall.vote(1, each[0]), 1);
            is("the QUOTA of that", hall.many(13), each[0]);
            hall.pass(12, 0);
            is("nothing BROUGHT on this DAY", hall.vote(0, 0), 1);
        }
    }

    /** Two GROWERS: of the first one so many STEMS were SOLD, of the second one that many; the second one says NO. */
    private static Bloomclock withWeights(int soldOfFirst, int soldOfSecond) {
        Bloomclock hall = withLot(40);
        hall.grower();
        hall.plant(1, 0, 100);
        hall.pass(12, 5);
        hall.cut(1, 40);
        hall.buyer(0);
        if (soldOfFirst > 0) {
            hall.presell(0, 0, soldOfFirst, 1);
        }
        if (soldOfSecond > 0) {
            hall.presell(1, 0, soldOfSecond, 1);
        }
        hall.bring(1, 1, 1);
        return hall;
    }

    private static void votesByWeight() {
        int[][] due = {{0, 0, 1, 0}, {1, 0, 2, 1}, {0, 1, 1, 0}, {5, 5, 6, 0}, {6, 5, 7, 1}, {5, 6, 6, 0}, {30, 1, 31, 1}};
        for (int[] each : due) {
            Bloomclock hall = withWeights(each[0], each[1]);
            is("the weight of YES", hall.vote(0, 9), each[2]);
            is("more for it than against it", hall.many(12), each[3] == 1 ? 9 : 500);
        }
        Bloomclock undone = withWeights(1, 0);
        undone.undo();
        is("less what was UNDONE", undone.vote(0, 9), 1);
        is("as much for it as against it", undone.many(12), 500);
        Bloomclock all = withWeights(3, 2);
        is("all say YES", all.vote(0, 38), 4 + 3);
        is("the QUOTA", all.many(12), 38);
        is("one says NO", all.vote(0, 37), 4);
        is("all say NO", answer(() -> {
            all.bring(0, 1, 1);
            return all.vote(0, 36);
        }), "0");
        is("the QUOTA stays", all.many(12), 37);
        Bloomclock none = new Bloomclock();
        is("without GROWERS", none.vote(2, 7), 0);
        is("no more for it than against it", none.many(14), 500);
    }

    // ---- answers that name a case of their own

    private static void answersOfOneThatIsNew() {
        Bloomclock hall = withLot(1);
        is("what is TOLD of one that was never BROUGHT", hall.ofLot(0, 8), -1);
        is("MINIMUM of one that was never BROUGHT", hall.ofLot(0, 9), -1);
        hall.bring(0, 0, 1);
        is("told 0", hall.ofLot(0, 8), 0);
        is("MINIMUM 1", hall.ofLot(0, 9), 1);
        hall.clock();
        is("what was told last", hall.ofLot(0, 8), 0);
        hall.bring(0, 110, 99);
        hall.clock();
        is("what was told last", hall.ofLot(0, 8), 110);
        is("MINIMUM last", hall.ofLot(0, 9), 99);
        hall.buyer(0);
        hall.presell(0, 0, 1, 1);
        is("what was told of one that is SOLD", hall.ofLot(0, 8), 110);
        is("LEAVING HOUR", hall.ofBuyer(0, 3), -1);
        hall.leave(0, 0);
        is("LEAVING HOUR 0", hall.ofBuyer(0, 3), 0);
    }

    private static void salesThatAreKept() {
        Bloomclock hall = withLot(60);
        hall.buyer(0);
        for (int i = 1; i <= 25; i++) {
            hall.presell(0, 0, 1, i);
            for (int k = 0; k < Math.min(i, 20); k++) {
                is("the PRICE of SALE " + k + " of " + i, hall.sale(k, 3), i - k);
            }
            is("no SALE more", answer(() -> hall.sale(Math.min(hall.many(11), 20), 3)),
                    "throws.IndexOutOfBoundsException");
        }
        is("SOLD ever counts those that are not kept", hall.many(11), 25);
        is("the mean PRICE, too", hall.meanPrice(), 13.0);
        is("undo", hall.undo(), 1);
        is("the latest one that is kept", hall.sale(0, 3), 24);
        is("the last one that is kept", hall.sale(18, 3), 6);
        is("one that is UNDONE brings none back", answer(() -> hall.sale(19, 3)),
                "throws.IndexOutOfBoundsException");
    }

    private static void placesInTheRow() {
        Bloomclock hall = withLot(1);
        for (int i = 1; i < 16; i++) {
            hall.cut(0, 1);
        }
        for (int i = 0; i < 16; i++) {
            is("NONE behind the last one", hall.row(i), -1);
            is("how many are in the ROW", hall.bring(15 - i, 1, 1), i + 1);
            is("the last one", hall.row(i), 15 - i);
        }
        is("NONE behind a full ROW", hall.row(16), -1);
        is("all are in the ROW", hall.many(6), 16);
        for (int i = 0; i < 16; i++) {
            is("the first one", hall.row(0), 15 - i);
            is("the clock sells none", hall.clock(), 0);
        }
        is("an empty ROW", hall.row(0), -1);
    }

    private static void meanOfNoneAndOfOne() {
        Bloomclock hall = withLot(60);
        hall.buyer(0);
        is("0 without any", hall.meanPrice(), 0.0);
        hall.presell(0, 0, 1, 1);
        is("one stem", hall.meanPrice(), 1.0);
        hall.presell(0, 0, 2, 2);
        is("not cut", hall.meanPrice(), 5.0 / 3.0);
        hall.undo();
        is("less what was UNDONE", hall.meanPrice(), 1.0);
        hall.undo();
        is("0 without any again", hall.meanPrice(), 0.0);
    }

    private static void whatItWouldFetch() {
        Bloomclock hall = withLot(10);
        hall.buyer(0);
        is("nobody takes", hall.wouldFetch(0), -1);
        is("nobody takes: the greatest MINIMUM", hall.bestMinimum(0), 99);
        hall.order(0, 0, 2, 91, 0, 20, 1);
        is("its LIFE is SHOWN: 91 is asked", hall.wouldFetch(0), -1);
        hall.order(0, 0, 2, 90, 0, 10, 1);
        is("its LIFE is SHOWN: 90 is asked", hall.wouldFetch(0), 10);
        is("the best MINIMUM", hall.bestMinimum(0), 10);
        hall.bring(0, 3, 99);
        is("in the ROW, less was told", hall.wouldFetch(0), 10);
        is("in the ROW, less was told", hall.bestMinimum(0), 10);
        hall.clock();
        hall.clear(hall.cut(0, 1), false);
        is("one that is CLEARED", hall.wouldFetch(1), -1);
        is("one that is CLEARED", hall.bestMinimum(1), 99);
        hall.presell(hall.cut(0, 1), 0, 1, 1);
        is("one that is SOLD", hall.wouldFetch(2), -1);
        is("one that is SOLD", hall.bestMinimum(2), 99);
        int[][] limits = {{99, 99}, {98, 98}, {2, 2}, {1, 1}};
        for (int[] each : limits) {
            Bloomclock one = withLot(1);
            one.buyer(0);
            order(one, 0, each[0], 1);
            is("a LIMIT of " + each[0], one.wouldFetch(0), each[1]);
            is("a LIMIT of " + each[0], one.bestMinimum(0), each[1]);
        }
        Bloomclock late = withLot(1);
        late.buyer(1);
        order(late, 0, 1, 1);
        is("a PRICE of 0", late.wouldFetch(0), -1);
        is("a PRICE of 0", late.bestMinimum(0), 99);
    }

    private static void bestMinimumOfTwelveSales() {
        Bloomclock hall = withLot(12);
        hall.cut(0, 11);
        for (int i = 0; i < 4; i++) {
            hall.buyer(0);
        }
        for (int i = 0; i < 12; i++) {
            order(hall, i % 4, 90 - i, 1);
        }
        is("all twelve take", hall.bestMinimum(0), 79);
        is("eleven take", hall.bestMinimum(1), 80);
        hall.bring(0, 90, 79);
        is("all twelve take", hall.clock(), 12);
    }

    private static void hoursUntilReady() {
        Bloomclock hall = new Bloomclock();
        hall.grower();
        hall.plant(0, 1, 1);
        int[][] due = {{0, 18}, {1, 15}, {2, 13}, {3, 12}};
        for (int[] each : due) {
            hall.lamps(0, each[0]);
            is("90 by " + (5 + each[0]), hall.readyIn(0), each[1]);
        }
        hall.lamps(0, 0);
        hall.pass(17, 5);
        is("5 are left: 1 HOUR", hall.readyIn(0), 1);
        hall.pass(1, 4);
        is("1 is left", hall.readyIn(0), 1);
        hall.pass(1, 0);
        is("without LIGHT and LAMPS: NONE", hall.readyIn(0), -1);
        hall.lamps(0, 1);
        is("by a lamp", hall.readyIn(0), 1);
        hall.pass(1, 0);
        is("it is", hall.readyIn(0), 0);
        hall.lamps(0, 0);
        is("it is, without LIGHT and LAMPS", hall.readyIn(0), 0);
        Bloomclock slow = new Bloomclock();
        slow.grower();
        slow.plant(0, 2, 1);
        slow.pass(1, 1);
        is("119 by 1", slow.readyIn(0), 119);
        slow.lamps(0, 1);
        is("119 by 2", slow.readyIn(0), 60);
        slow.pass(1, 0);
        slow.lamps(0, 2);
        is("118 by 2", slow.readyIn(0), 59);
    }

    private static void lampsThatAreNeeded() {
        for (int light = 0; light <= 9; light++) {
            Bloomclock hall = new Bloomclock();
            hall.pass(1, light);
            for (int cultivar = 0; cultivar < 3; cultivar++) {
                for (int hours = 1; hours <= 60; hours++) {
                    int due = -1;
                    for (int lamps = 3; lamps >= 0; lamps--) {
                        due = hours * (light + lamps) >= ASKED[cultivar] ? lamps : due;
                    }
                    // 180 questions on an object, below the 512 calls that it is used for.
                    is("lampsFor, LIGHT " + light, hall.lampsFor(cultivar, hours), due);
                }
            }
        }
        Bloomclock dark = new Bloomclock();
        dark.pass(1, 0);
        is("120 HOURS of a lamp", dark.lampsFor(2, 120), 1);
        is("119 HOURS of two", dark.lampsFor(2, 119), 2);
        is("200 HOURS of a lamp", dark.lampsFor(2, 200), 1);
        is("19 HOURS", dark.lampsFor(0, 19), -1);
        is("20 HOURS of three", dark.lampsFor(0, 20), 3);
        is("30 HOURS of two", dark.lampsFor(0, 30), 2);
    }

    /** As many as there can be of all that has a number, 20 SALES that are kept, and 3 LOTS in the ROW. */
    private static Bloomclock full() {
        Bloomclock hall = new Bloomclock();
        for (int i = 0; i < 4; i++) {
            hall.grower();
            hall.buyer(2 * i);
        }
        for (int i = 0; i < 8; i++) {
            hall.plant(i % 4, i % 3, 200);
        }
        hall.lamps(1, 2);
        hall.pass(21, 5);
        for (int i = 0; i < 16; i++) {
            hall.cut(i % 2 == 0 ? 0 : 4, 12);
        }
        for (int i = 0; i < 12; i++) {
            hall.order(i % 4, i % 3, 2, 5 * i, 40 + i, 25 + 5 * i, 3 + i);
        }
        for (int i = 0; i < 22; i++) {
            hall.presell(i % 8, i % 4, 1 + i % 3, 1 + i);
        }
        for (int i = 8; i < 12; i++) {
            hall.bring(i, 50, i);
        }
        hall.clock();
        hall.clear(15, true);
        hall.pass(1, 4);
        return hall;
    }

    private static void digestOfAFullHall() {
        long d = 58185L;
        // Each part is asked of an object of its own: all questions together are more than an object answers.
        Bloomclock hall = full();
        for (int i = 0; i <= 15; i++) {
            d = d * 31 + hall.many(i);
        }
        for (int i = 0; i < 4 * 5; i++) {
            d = d * 31 + hall.ofGrower(i / 5, i % 5);
        }
        for (int i = 0; i < 8 * 7; i++) {
            d = d * 31 + (i % 7 < 6 ? hall.ofCrop(i / 7, i % 7) : hall.readyIn(i / 7));
        }
        hall = full();
        for (int i = 0; i < 16 * 12; i++) {
            int lot = i / 12;
            d = d * 31 + (i % 12 < 10 ? hall.ofLot(lot, i % 12)
                    : i % 12 == 10 ? hall.wouldFetch(lot) : hall.bestMinimum(lot));
        }
        hall = full();
        for (int i = 0; i < 4 * 9; i++) {
            d = d * 31 + hall.ofBuyer(i / 9, i % 9);
        }
        for (int i = 0; i < 12; i++) {
            d = d * 31 + hall.wants(i);
        }
        for (int i = 0; i < 20 * 5; i++) {
            d = d * 31 + hall.sale(i / 5, i % 5);
        }
        for (int i = 0; i < 3; i++) {
            d = d * 31 + hall.row(i);
        }
        for (int i = 0; i < 3; i++) {
            d = d * 31 + hall.lampsFor(i, 12);
        }
        hall = full();
        is("lots in the ROW", hall.many(6), 3);
        is("digest of a full hall", hall.digest(), d);
        is("digest changes nothing", hall.digest(), d);
    }

    /** Of 512 calls the last one is answered as any other. */
    private static void theLastCall() {
        Bloomclock hall = new Bloomclock();
        hall.grower();
        for (int i = 2; i < 512; i++) {
            hall.pass(48, 9);
        }
        is("the 512th call", hall.many(0), 510 * 48);
    }

    private static void section1() {
        readyAtTheSumThatIsAsked();
        ageFromTheHourBehindReady();
        gradeByAge();
        lifeAsItIsCut();
        bucketsOfTwentyStems();
        thePoolToItsEnd();
        coinsOfGrowersBelowZero();
    }

    private static void section2() {
        hoursAndDays();
        lightOfEachHour();
        livesFallToZero();
        livesBelowWhatAnHourTakes();
        livesOfSoldAndClearedStay();
    }

    private static void section3() {
        theQuotaAtFirst();
        quotasOfNoneAndOfOne();
        quotaOfEachCultivar();
        quotaOfEachGrower();
        shownIsTheSmallerOne();
        marksOfInspections();
        whatIsToldAndTheLife();
        ordersThatFit();
    }

    private static void section4() {
        pricesFromTheStartToOne();
        latencyAndEvened();
        theMinimumAndThePrice();
        theSmallestStampFirst();
        theClockStartsAnewTenAbove();
        asManyAsItsCoinsPay();
        asManyAsThereAreAndAreWanted();
        outUntilTheClockIsDone();
        outTheClockStartsFromTheSamePrice();
        theFeeIsRoundedDown();
        bucketsOfASale();
        depositAlsoBelowZero();
        trolleysHaveTheLifeOfTheLot();
        undoTakesAllBack();
        undoOfOneThatIsNotSoldOut();
        undoTakesTheLatestTrolley();
        noOrderIsLessByPreselling();
    }

    private static void section5() {
        theSpeedOfTheRail();
        missedOnes();
        theOrderOfTheRail();
        bouquets();
        bucketsThatComeBack();
        marksOfGifts();
        clearedOnes();
        votesByWhatWasBrought();
        votesByWeight();
    }

    private static void answersOfTheirOwn() {
        answersOfOneThatIsNew();
        salesThatAreKept();
        placesInTheRow();
        meanOfNoneAndOfOne();
        whatItWouldFetch();
        bestMinimumOfTwelveSales();
        hoursUntilReady();
        lampsThatAreNeeded();
        digestOfAFullHall();
        theLastCall();
    }

    public static void main(String[] args) {
        section1();
        section2();
        section3();
        section4();
        section5();
        answersOfTheirOwn();
        ends();
    }
}
