/** Each promise of the document: ordinary inputs, the edges that it names, and wrong inputs. */
public final class PromisesTest extends Checks {
    private static void p1NewObject() {
        Bloomclock hall = new Bloomclock();
        int[] due = {0, 0, 0, 0, 0, 0, 0, 0, 60, 0, 0, 0, 500, 500, 500, -1};
        for (int what = 0; what <= 15; what++) {
            is("many(" + what + ") of a new one", hall.many(what), due[what]);
        }
        is("meanPrice of a new one", hall.meanPrice(), 0.0);
        is("light of a new one", hall.lampsFor(0, 12), 0);
        is("light of a new one", hall.lampsFor(0, 11), 1);
        is("speed of a new one", hall.speed(1), 2);
    }

    private static void p2Grower() {
        Bloomclock hall = new Bloomclock();
        for (int i = 0; i < 4; i++) {
            is("grower", hall.grower(), i);
            is("growers", hall.many(1), i + 1);
        }
        refuses("a 5th grower", hall, REFUSED, hall::grower);
        int[] due = {100, 0, 50, 0, 0};
        for (int what = 0; what < 5; what++) {
            is("ofGrower of a new one", hall.ofGrower(3, what), due[what]);
        }
    }

    private static void p3Lamps() {
        Bloomclock hall = new Bloomclock();
        refuses("lamps without growers", hall, NO_SUCH, () -> hall.lamps(0, 1));
        hall.grower();
        hall.grower();
        is("lamps", hall.lamps(1, 3), 0);
        is("lamps", hall.lamps(1, 2), 3);
        is("lamps of the other", hall.ofGrower(0, 1), 0);
        is("lamps of it", hall.ofGrower(1, 1), 2);
        refuses("lamps -1", hall, WRONG, () -> hall.lamps(0, -1));
        refuses("lamps 4", hall, WRONG, () -> hall.lamps(0, 4));
        refuses("grower -1, lamps 4", hall, NO_SUCH, () -> hall.lamps(-1, 4));
        refuses("grower 2", hall, NO_SUCH, () -> hall.lamps(2, 0));
        hall.pass(3, 0);
        is("coins behind 3 hours of 2 lamps", hall.ofGrower(1, 0), 94);
        is("coins without lamps", hall.ofGrower(0, 0), 100);
        hall.lamps(1, 3);
        hall.pass(48, 0);
        is("coins below 0", hall.ofGrower(1, 0), -50);
    }

    private static void p4Plant() {
        Bloomclock hall = new Bloomclock();
        refuses("plant without growers", hall, NO_SUCH, () -> hall.plant(0, 0, 1));
        hall.grower();
        hall.grower();
        refuses("grower -1", hall, NO_SUCH, () -> hall.plant(-1, 3, 0));
        refuses("cultivar 3", hall, WRONG, () -> hall.plant(0, 3, 1));
        refuses("cultivar -1", hall, WRONG, () -> hall.plant(0, -1, 1));
        refuses("plants 0", hall, WRONG, () -> hall.plant(0, 0, 0));
        refuses("plants 201", hall, WRONG, () -> hall.plant(0, 0, 201));
        is("plant", hall.plant(1, 2, 200), 0);
        int[] due = {1, 2, 200, 0, 0, 0};
        for (int what = 0; what <= 5; what++) {
            is("ofCrop of a new one", hall.ofCrop(0, what), due[what]);
        }
        for (int i = 1; i < 8; i++) {
            is("plant", hall.plant(0, 0, 1), i);
        }
        refuses("a 9th crop", hall, REFUSED, () -> hall.plant(0, 0, 1));
        refuses("a 9th crop of no grower", hall, NO_SUCH, () -> hall.plant(2, 0, 1));
        refuses("a 9th crop of 0 plants", hall, WRONG, () -> hall.plant(0, 0, 0));
    }

    private static void p5Cut() {
        Bloomclock hall = new Bloomclock();
        hall.grower();
        hall.plant(0, 0, 100);
        hall.pass(11, 5);
        refuses("cut of one that is not ready", hall, REFUSED, () -> hall.cut(0, 1));
        hall.pass(1, 5);
        refuses("no crop -1", hall, NO_SUCH, () -> hall.cut(-1, 0));
        refuses("no crop 1", hall, NO_SUCH, () -> hall.cut(1, 1));
        refuses("stems 0", hall, WRONG, () -> hall.cut(0, 0));
        refuses("more than there are", hall, REFUSED, () -> hall.cut(0, 101));
        refuses("very many", hall, REFUSED, () -> hall.cut(0, Integer.MAX_VALUE));
        is("cut", hall.cut(0, 20), 0);
        is("buckets for 20", hall.ofLot(0, 5), 1);
        is("cut", hall.cut(0, 21), 1);
        is("buckets for 21", hall.ofLot(1, 5), 2);
        is("the pool", hall.many(8), 57);
        is("plants that are left", hall.ofCrop(0, 2), 59);
        is("lots", hall.many(3), 2);
        int[] due = {0, 0, 20, 0, 90, 1, 1, 0, -1, -1};
        for (int what = 0; what <= 9; what++) {
            is("ofLot " + what + " of a new one", hall.ofLot(0, what), due[what]);
        }
        for (int i = 2; i < 16; i++) {
            is("cut", hall.cut(0, 1), i);
        }
        refuses("a 17th lot", hall, REFUSED, () -> hall.cut(0, 1));
        gradesByAge();
        poolEnds();
    }

    private static void gradesByAge() {
        Bloomclock hall = withLot(1);
        int[][] due = {{10, 0, 70}, {11, 1, 68}, {20, 1, 50}, {21, 2, 48}, {44, 2, 2}, {45, 2, 0}, {46, 2, 0}};
        int age = 0;
        for (int[] each : due) {
            hall.pass(each[0] - age, 0);
            age = each[0];
            int lot = hall.cut(0, 1);
            is("age as it was cut", hall.ofCrop(0, 5), age);
            is("grade at the age " + age, hall.ofLot(lot, 3), each[1]);
            is("life at the age " + age, hall.ofLot(lot, 4), each[2]);
        }
        Bloomclock other = grown();
        is("life of the cultivar 1 at an age of 6", other.ofLot(other.cut(1, 1), 4), 58);
        is("life of the cultivar 2, fresh", other.ofLot(other.cut(2, 1), 4), 110);
    }

    private static void poolEnds() {
        Bloomclock hall = new Bloomclock();
        hall.grower();
        for (int i = 0; i < 8; i++) {
            hall.plant(0, 0, 200);
        }
        hall.pass(12, 5);
        for (int i = 0; i < 5; i++) {
            hall.cut(i, 200);
        }
        hall.cut(5, 161);
        is("the pool", hall.many(8), 1);
        refuses("not so many buckets", hall, REFUSED, () -> hall.cut(6, 21));
        is("just so many", hall.cut(6, 20), 6);
        refuses("no buckets", hall, REFUSED, () -> hall.cut(6, 1));
    }

    private static void p6Move() {
        Bloomclock hall = withLot(40);
        hall.cut(0, 10);
        hall.cut(0, 10);
        is("move", hall.move(0, 0), 1);
        is("move", hall.move(1, 2), 1);
        is("move", hall.move(1, 2), 2);
        refuses("no lot 3", hall, NO_SUCH, () -> hall.move(3, 3));
        refuses("no lot -1", hall, NO_SUCH, () -> hall.move(-1, 0));
        refuses("place 3", hall, WRONG, () -> hall.move(0, 3));
        refuses("place -1", hall, WRONG, () -> hall.move(0, -1));
        hall.pass(2, 0);
        is("life in the cold", hall.ofLot(0, 4), 88);
        is("life on the dock", hall.ofLot(1, 4), 78);
        is("life in the hall", hall.ofLot(2, 4), 84);
        hall.bring(0, 80, 1);
        is("one in the row moves", hall.move(0, 1), 0);
        hall.buyer(0);
        hall.presell(1, 0, 10, 1);
        refuses("one that is sold", hall, REFUSED, () -> hall.move(1, 0));
        hall.clear(2, false);
        refuses("one that is cleared", hall, REFUSED, () -> hall.move(2, 0));
        refuses("one that is cleared, to 4", hall, WRONG, () -> hall.move(2, 4));
    }

    private static void p7Pass() {
        Bloomclock hall = new Bloomclock();
        refuses("hours 0", hall, WRONG, () -> hall.pass(0, 0));
        refuses("hours 49", hall, WRONG, () -> hall.pass(49, 0));
        refuses("light -1", hall, WRONG, () -> hall.pass(1, -1));
        refuses("light 10", hall, WRONG, () -> hall.pass(1, 10));
        is("pass", hall.pass(48, 9), 0);
        is("hour", hall.many(0), 48);
        is("the light stays", hall.lampsFor(0, 7), 0);
        hall.grower();
        hall.lamps(0, 2);
        hall.plant(0, 1, 1);
        hall.pass(10, 6);
        is("sum of light and lamps", hall.ofCrop(0, 3), 80);
        is("not ready", hall.ofCrop(0, 4), 0);
        is("no age", hall.ofCrop(0, 5), 0);
        hall.pass(1, 8);
        is("ready at the sum that is asked", hall.ofCrop(0, 4), 1);
        is("no age at first", hall.ofCrop(0, 5), 0);
        hall.pass(3, 0);
        is("the sum goes on", hall.ofCrop(0, 3), 96);
        is("age", hall.ofCrop(0, 5), 3);
        lifeEndsAtZero();
        theRail();
        lifeOnTheRail();
        lateLeavers();
    }

    private static void lifeOnTheRail() {
        Bloomclock hall = withLot(10);
        hall.pass(28, 0);
        hall.buyer(0);
        hall.speed(1);
        for (int i = 0; i < 4; i++) {
            hall.presell(0, 0, 1, 1);
        }
        hall.presell(hall.cut(0, 1), 0, 1, 1);
        is("the least life", hall.many(15), 6);
        hall.pass(1, 0);
        is("3 an hour", hall.many(15), 3);
        hall.pass(1, 0);
        is("to 0", hall.many(15), 0);
        is("three are left", hall.many(7), 3);
        hall.pass(1, 0);
        is("0 at least", hall.many(15), 0);
        Bloomclock first = withLot(10);
        first.buyer(0);
        first.buyer(0);
        first.presell(0, 0, 1, 1);
        first.leave(1, 20);
        first.speed(3);
        for (int i = 0; i < 3; i++) {
            first.presell(0, 1, 1, 1);
        }
        first.pass(1, 0);
        is("the first one loses life too", first.many(15), 87);
    }

    private static void lateLeavers() {
        Bloomclock hall = withLot(10);
        hall.buyer(0);
        hall.buyer(0);
        hall.buyer(0);
        hall.speed(1);
        hall.leave(0, 9998);
        hall.leave(1, 9999);
        hall.presell(0, 2, 1, 1);
        hall.presell(0, 1, 1, 1);
        hall.presell(0, 0, 1, 1);
        hall.pass(1, 0);
        is("9998", hall.ofBuyer(0, 4), 1);
        hall.pass(1, 0);
        is("9999 is ahead of none", hall.ofBuyer(1, 4), 1);
        Bloomclock inOrder = withLot(10);
        inOrder.buyer(0);
        inOrder.buyer(0);
        inOrder.speed(1);
        inOrder.leave(0, 20);
        inOrder.leave(1, 30);
        inOrder.presell(0, 0, 1, 1);
        inOrder.presell(0, 1, 1, 1);
        inOrder.pass(1, 0);
        is("the first one on the rail leaves first", inOrder.ofBuyer(0, 4), 1);
    }

    private static void lifeEndsAtZero() {
        Bloomclock hall = withLot(10);
        hall.cut(0, 10);
        hall.clear(1, false);
        hall.cut(0, 10);
        hall.buyer(0);
        hall.presell(2, 0, 10, 1);
        hall.pass(29, 0);
        is("life of one with stems", hall.ofLot(0, 4), 3);
        is("life of one that is cleared stays", hall.ofLot(1, 4), 90);
        is("life of one that is sold stays", hall.ofLot(2, 4), 90);
        hall.move(0, 2);
        hall.pass(1, 0);
        is("life is 0 at least", hall.ofLot(0, 4), 0);
    }

    private static void theRail() {
        Bloomclock hall = withLot(100);
        for (int i = 0; i < 3; i++) {
            hall.buyer(0);
        }
        hall.speed(1);
        hall.leave(1, 15);
        hall.leave(2, 13);
        hall.presell(0, 0, 1, 1);
        hall.presell(0, 1, 2, 1);
        hall.presell(0, 2, 4, 1);
        hall.presell(0, 1, 8, 1);
        hall.presell(0, 2, 16, 1);
        is("trolleys", hall.many(7), 5);
        is("hour 13", hall.pass(1, 0), 1);
        is("the smallest hour is first", hall.ofBuyer(2, 4), 4);
        is("hour 14", hall.pass(1, 0), 1);
        is("missed", hall.ofBuyer(2, 4), 4);
        is("what is missed is waste", hall.many(10), 16);
        is("hour 15", hall.pass(1, 0), 1);
        is("of several as they came", hall.ofBuyer(1, 4), 2);
        is("life on the rail", hall.many(15), 81);
        hall.leave(1, -1);
        is("hour 16", hall.pass(1, 0), 1);
        is("as they came without hours", hall.ofBuyer(0, 4), 1);
        is("the rest", hall.pass(9, 0), 1);
        is("what is brought to one who stays", hall.ofBuyer(1, 4), 10);
        is("no trolleys are left", hall.many(15), -1);
        is("waste", hall.many(10), 16);
    }

    private static void p8Bring() {
        Bloomclock hall = withLot(60);
        hall.cut(0, 40);
        hall.cut(0, 10);
        refuses("no lot -1", hall, NO_SUCH, () -> hall.bring(-1, 111, 0));
        refuses("no lot 3", hall, NO_SUCH, () -> hall.bring(3, 0, 1));
        refuses("told -1", hall, WRONG, () -> hall.bring(0, -1, 1));
        refuses("told 111", hall, WRONG, () -> hall.bring(0, 111, 1));
        refuses("minimum 0", hall, WRONG, () -> hall.bring(0, 0, 0));
        refuses("minimum 100", hall, WRONG, () -> hall.bring(0, 0, 100));
        is("bring", hall.bring(1, 110, 99), 1);
        is("bring", hall.bring(0, 0, 1), 2);
        is("told", hall.ofLot(1, 8), 110);
        is("minimum", hall.ofLot(1, 9), 99);
        is("state", hall.ofLot(1, 7), 1);
        is("brought", hall.ofGrower(0, 4), 100);
        refuses("one in the row", hall, REFUSED, () -> hall.bring(0, 0, 1));
        refuses("one in the row, told 111", hall, WRONG, () -> hall.bring(0, 111, 1));
        hall.vote(0, 0);
        is("a vote against the quota", hall.many(12), 500);
        hall.vote(0, 109);
        refuses("more than the quota", hall, REFUSED, () -> hall.bring(2, 0, 1));
        hall.vote(0, 110);
        is("just the quota", hall.bring(2, 0, 1), 3);
        hall.clock();
        refuses("one that is brought again counts again", hall, REFUSED, () -> hall.bring(1, 1, 1));
        hall.pass(11, 0);
        refuses("on the same day", hall, REFUSED, () -> hall.bring(1, 1, 1));
        hall.pass(1, 0);
        is("brought on a new day", hall.ofGrower(0, 4), 0);
        is("bring", hall.bring(1, 7, 8), 3);
        is("told last", hall.ofLot(1, 8), 7);
        is("minimum last", hall.ofLot(1, 9), 8);
        quotasOfEach();
    }

    private static void quotasOfEach() {
        Bloomclock hall = grown();
        hall.grower();
        hall.plant(1, 0, 100);
        hall.pass(12, 5);
        hall.cut(0, 50);
        hall.cut(1, 50);
        hall.cut(3, 50);
        hall.vote(0, 50);
        is("of one grower", hall.bring(0, 0, 1), 1);
        is("of another cultivar", hall.bring(1, 0, 1), 2);
        is("of another grower", hall.bring(2, 0, 1), 3);
        is("brought of both cultivars", hall.ofGrower(0, 4), 100);
    }

    private static void p9Inspect() {
        Bloomclock hall = withLot(10);
        refuses("no lot 1", hall, NO_SUCH, () -> hall.inspect(1));
        refuses("no lot -1", hall, NO_SUCH, () -> hall.inspect(-1));
        refuses("one that is held", hall, REFUSED, () -> hall.inspect(0));
        hall.bring(0, 90, 1);
        is("told its life", hall.inspect(0), 52);
        is("what is told stays", hall.ofLot(0, 8), 90);
        hall.pass(1, 0);
        is("told more", hall.inspect(0), 42);
        is("what is told is the life", hall.ofLot(0, 8), 87);
        is("told its life again", hall.inspect(0), 44);
        for (int i = 0; i < 4; i++) {
            hall.pass(1, 0);
            hall.inspect(0);
        }
        is("mark", hall.ofGrower(0, 2), 4);
        hall.pass(1, 0);
        is("mark is 0 at least", hall.inspect(0), 0);
        for (int i = 0; i < 49; i++) {
            hall.inspect(0);
        }
        is("mark", hall.inspect(0), 100);
        is("mark is 100 at most", hall.inspect(0), 100);
        hall.clock();
        refuses("one that is held again", hall, REFUSED, () -> hall.inspect(0));
    }

    private static void p10Buyer() {
        Bloomclock hall = new Bloomclock();
        refuses("latency -1", hall, WRONG, () -> hall.buyer(-1));
        refuses("latency 10", hall, WRONG, () -> hall.buyer(10));
        int[] latencies = {0, 9, 5, 3};
        for (int i = 0; i < 4; i++) {
            is("buyer", hall.buyer(latencies[i]), i);
            is("latency", hall.ofBuyer(i, 1), latencies[i]);
        }
        is("buyers", hall.many(4), 4);
        int[] due = {2000, 3, 0, -1, 0, 0, 0, 0, 0};
        for (int what = 0; what <= 8; what++) {
            is("ofBuyer of a new one", hall.ofBuyer(3, what), due[what]);
        }
        refuses("a 5th buyer", hall, REFUSED, () -> hall.buyer(0));
        refuses("a 5th buyer of latency 10", hall, WRONG, () -> hall.buyer(10));
    }

    private static void p11Even() {
        Bloomclock hall = withLot(100);
        refuses("no buyer", hall, NO_SUCH, () -> hall.even(0, 10));
        hall.buyer(7);
        is("even", hall.even(0, 9), 0);
        is("even", hall.even(0, 0), 9);
        is("even", hall.even(0, 4), 0);
        is("evened", hall.ofBuyer(0, 2), 4);
        refuses("no buyer -1", hall, NO_SUCH, () -> hall.even(-1, 0));
        refuses("evened by -1", hall, WRONG, () -> hall.even(0, -1));
        refuses("evened by 10", hall, WRONG, () -> hall.even(0, 10));
        order(hall, 0, 50, 10);
        is("late by 3", hall.wouldFetch(0), 47);
        hall.even(0, 9);
        is("not early", hall.wouldFetch(0), 50);
    }

    private static void p12Leave() {
        Bloomclock hall = new Bloomclock();
        refuses("no buyer", hall, NO_SUCH, () -> hall.leave(0, 10000));
        hall.buyer(7);
        is("leave", hall.leave(0, 9999), -1);
        is("leave", hall.leave(0, 0), 9999);
        is("leave", hall.leave(0, -1), 0);
        is("leaving hour", hall.ofBuyer(0, 3), -1);
        refuses("hour -2", hall, WRONG, () -> hall.leave(0, -2));
        refuses("hour 10000", hall, WRONG, () -> hall.leave(0, 10000));
        refuses("no buyer -1", hall, NO_SUCH, () -> hall.leave(-1, 0));
    }

    private static void p13Order() {
        Bloomclock hall = new Bloomclock();
        refuses("no buyer", hall, NO_SUCH, () -> hall.order(0, 9, 9, 0, 0, 1, 1));
        hall.buyer(0);
        int[][] wrong = {{-1, 0, 0, 0, 1, 1}, {3, 0, 0, 0, 1, 1}, {0, -1, 0, 0, 1, 1}, {0, 3, 0, 0, 1, 1},
            {0, 0, -1, 0, 1, 1}, {0, 0, 111, 0, 1, 1}, {0, 0, 0, -1, 1, 1}, {0, 0, 0, 101, 1, 1},
            {0, 0, 0, 0, 0, 1}, {0, 0, 0, 0, 100, 1}, {0, 0, 0, 0, 1, 0}, {0, 0, 0, 0, 1, 501}};
        for (int[] w : wrong) {
            refuses("a wrong order", hall, WRONG, () -> hall.order(0, w[0], w[1], w[2], w[3], w[4], w[5]));
            refuses("a wrong order of no buyer", hall, NO_SUCH,
                    () -> hall.order(1, w[0], w[1], w[2], w[3], w[4], w[5]));
        }
        is("the greatest order", hall.order(0, 2, 2, 110, 100, 99, 500), 0);
        is("the least order", hall.order(0, 0, 0, 0, 0, 1, 1), 1);
        is("wants", hall.wants(0), 500);
        is("wants", hall.wants(1), 1);
        for (int i = 2; i < 12; i++) {
            is("order", hall.order(0, 0, 0, 0, 0, 1, 1), i);
        }
        is("orders", hall.many(5), 12);
        refuses("a 13th order", hall, REFUSED, () -> hall.order(0, 0, 0, 0, 0, 1, 1));
        refuses("a 13th order of a wrong limit", hall, WRONG, () -> hall.order(0, 0, 0, 0, 0, 0, 1));
    }

    private static void p14Clock() {
        Bloomclock hall = withLot(100);
        refuses("an empty row", hall, REFUSED, hall::clock);
        hall.buyer(2);
        hall.buyer(0);
        order(hall, 0, 52, 10);
        order(hall, 1, 50, 25);
        hall.bring(0, 90, 10);
        is("clock", hall.clock(), 35);
        is("the same stamp: the smaller buyer", hall.sale(1, 1), 0);
        is("its price", hall.sale(1, 3), 50);
        is("the other", hall.sale(0, 2), 25);
        is("held again", hall.ofLot(0, 7), 0);
        is("the row", hall.many(6), 0);
        is("stems", hall.ofLot(0, 2), 65);
        is("buckets of the lot", hall.ofLot(0, 5), 2);
        is("what the first pays", hall.ofBuyer(0, 0), 2000 - 500 - 2);
        is("what the second pays", hall.ofBuyer(1, 0), 2000 - 1250 - 4);
        is("its buckets", hall.ofBuyer(1, 7), 2);
        is("the hall has fees and deposits", hall.many(9), 25 + 62 + 6);
        is("the grower has the rest", hall.ofGrower(0, 0), 100 + 475 + 1188);
        is("sold", hall.ofGrower(0, 3), 35);
        is("trolleys", hall.many(7), 2);
        is("what the orders want", hall.wants(0) + hall.wants(1), 0);
        theSmallestOrder();
        theSmallestBuyer();
        oneStem();
        theDepositCounts();
        anotherCultivar();
        theMinimum();
        oneIsOut();
        whatFits();
        soldOut();
        bucketsOfSales();
    }

    private static void theSmallestOrder() {
        Bloomclock hall = withLot(30);
        hall.buyer(0);
        order(hall, 0, 40, 7);
        order(hall, 0, 40, 9);
        order(hall, 0, 41, 2);
        hall.bring(0, 90, 1);
        is("clock", hall.clock(), 18);
        is("the smallest stamp", hall.sale(2, 2), 2);
        is("the smallest order", hall.sale(1, 2), 7);
        is("the last one", hall.sale(0, 2), 9);
        order(hall, 0, 99, 1);
        order(hall, 0, 1, 1);
        hall.bring(0, 90, 1);
        is("clock", hall.clock(), 2);
        is("from 99", hall.sale(1, 3), 99);
        is("to 1", hall.sale(0, 3), 1);
    }

    private static void theSmallestBuyer() {
        Bloomclock hall = withLot(30);
        hall.buyer(0);
        hall.buyer(0);
        order(hall, 1, 40, 7);
        order(hall, 0, 39, 8);
        order(hall, 0, 40, 9);
        order(hall, 0, 40, 3);
        hall.bring(0, 90, 1);
        is("clock", hall.clock(), 27);
        int[] due = {9, 3, 7, 8};
        for (int i = 0; i < 4; i++) {
            is("the smallest stamp, buyer, order", hall.sale(3 - i, 2), due[i]);
        }
    }

    private static void oneStem() {
        Bloomclock hall = withLot(2);
        hall.buyer(0);
        order(hall, 0, 40, 1);
        order(hall, 0, 30, 2);
        hall.bring(0, 90, 1);
        is("the one stem that is left is sold", hall.clock(), 2);
        is("sold", hall.ofLot(0, 7), 2);
        int lot = hall.cut(0, 2);
        hall.presell(lot, 0, 1, 1);
        is("with one stem it is held", hall.ofLot(lot, 7), 0);
        hall.pass(1, 0);
        is("one stem has a life", hall.ofLot(lot, 4), 87);
    }

    /** What a buyer pays of deposit in a run of the clock, it has not for the next sale of that run. */
    private static void theDepositCounts() {
        is("2000 - 41 * 48 - 3 * 2 pay one for 26", soldBehind41For48(26), 42);
        is("2000 - 41 * 48 - 3 * 2 pay none for 27", soldBehind41For48(27), 41);
        Bloomclock hall = withLot(40);
        hall.buyer(0);
        order(hall, 0, 99, 1);
        order(hall, 0, 98, 1);
        order(hall, 0, 97, 1);
        order(hall, 0, 74, 37);
        hall.bring(0, 90, 1);
        is("no deposit without buckets: 1702 pay 23 for 74", hall.clock(), 3 + 23);
        is("all is paid", hall.ofBuyer(0, 0), 0);
        is("two buckets", hall.ofBuyer(0, 7), 2);
    }

    private static int soldBehind41For48(int limit) {
        Bloomclock hall = withLot(80);
        hall.buyer(0);
        order(hall, 0, 48, 41);
        order(hall, 0, limit, 30);
        hall.bring(0, 90, 1);
        return hall.clock();
    }

    private static void anotherCultivar() {
        Bloomclock hall = grown();
        hall.cut(0, 10);
        hall.cut(2, 10);
        hall.buyer(0);
        hall.order(0, 0, 2, 0, 0, 9, 5);
        hall.order(0, 2, 2, 0, 0, 8, 6);
        is("would fetch", hall.wouldFetch(1), 8);
        hall.bring(1, 9, 1);
        is("clock", hall.clock(), 6);
        is("would fetch", hall.wouldFetch(0), 9);
        is("would fetch", hall.wouldFetch(1), -1);
    }

    private static void theMinimum() {
        Bloomclock hall = withLot(30);
        hall.buyer(5);
        order(hall, 0, 40, 10);
        hall.bring(0, 90, 36);
        is("the price is below the minimum", hall.clock(), 0);
        is("held again", hall.ofLot(0, 7), 0);
        is("told stays", hall.ofLot(0, 8), 90);
        hall.bring(0, 90, 35);
        is("the price is the minimum", hall.clock(), 10);
        order(hall, 0, 5, 10);
        hall.bring(0, 90, 1);
        is("a price of 0", hall.clock(), 0);
        order(hall, 0, 6, 10);
        hall.bring(0, 90, 1);
        is("a price of 1", hall.clock(), 10);
    }

    private static void oneIsOut() {
        Bloomclock hall = withLot(200);
        hall.buyer(0);
        hall.buyer(9);
        order(hall, 0, 90, 100);
        order(hall, 0, 20, 100);
        order(hall, 1, 90, 3);
        hall.bring(0, 90, 1);
        is("clock", hall.clock(), 25);
        is("as its coins pay", hall.sale(1, 2), 22);
        is("coins less the deposit", hall.ofBuyer(0, 0), 2000 - 22 * 90 - 4);
        is("it wants the rest", hall.wants(0), 78);
        is("the other one at its price", hall.sale(0, 3), 81);
        is("one that is out is out with all its orders", hall.wants(1), 100);
        order(hall, 1, 10, 1);
        hall.bring(0, 90, 1);
        is("it is in again, and out again", hall.clock(), 1);
        Bloomclock poor = withLot(200);
        poor.buyer(0);
        poor.presell(0, 0, 20, 99);
        poor.presell(0, 0, 9, 2);
        is("the deposit goes below 0", poor.ofBuyer(0, 0), -2);
        order(poor, 0, 1, 10);
        poor.bring(0, 90, 1);
        is("without coins", poor.clock(), 0);
    }

    private static void whatFits() {
        Bloomclock hall = withLot(100);
        hall.buyer(0);
        hall.order(0, 1, 2, 0, 0, 99, 1);
        hall.order(0, 0, 0, 88, 50, 98, 1);
        hall.order(0, 0, 0, 89, 50, 97, 1);
        hall.order(0, 0, 0, 88, 51, 96, 1);
        hall.bring(0, 88, 1);
        is("cultivar, what is told, mark", hall.clock(), 1);
        is("the one that fits", hall.wants(1), 0);
        hall.pass(2, 0);
        hall.order(0, 0, 0, 85, 0, 95, 1);
        hall.order(0, 0, 0, 84, 0, 94, 1);
        hall.bring(0, 110, 1);
        is("its life, if more is told", hall.clock(), 1);
        is("the one that fits", hall.wants(5), 0);
        hall.pass(9, 0);
        int lot = hall.cut(0, 10);
        hall.order(0, 0, 0, 0, 0, 93, 1);
        hall.order(0, 0, 1, 0, 0, 92, 1);
        hall.order(0, 0, 2, 0, 0, 91, 1);
        is("grade", hall.ofLot(lot, 3), 1);
        hall.bring(lot, 0, 1);
        is("a grade or better", hall.clock(), 2);
        is("a better grade is wanted", hall.wants(6), 1);
    }

    private static void soldOut() {
        Bloomclock hall = withLot(10);
        hall.cut(0, 5);
        hall.buyer(0);
        order(hall, 0, 30, 12);
        hall.bring(1, 90, 1);
        hall.bring(0, 90, 1);
        is("the first of the row", hall.clock(), 5);
        is("sold", hall.ofLot(1, 7), 2);
        is("the row goes on", hall.row(0), 0);
        is("the next one", hall.clock(), 7);
        is("what is left is held", hall.ofLot(0, 7), 0);
        is("stems", hall.ofLot(0, 2), 3);
        refuses("the row is empty", hall, REFUSED, hall::clock);
        refuses("one that is sold is not brought", hall, REFUSED, () -> hall.bring(1, 0, 1));
        refuses("one that is sold is not cleared", hall, REFUSED, () -> hall.clear(1, true));
        refuses("one that is sold is not sold again", hall, REFUSED, () -> hall.presell(1, 0, 1, 1));
    }

    private static void bucketsOfSales() {
        Bloomclock hall = withLot(21);
        hall.buyer(0);
        hall.buyer(0);
        hall.presell(0, 0, 1, 1);
        hall.presell(0, 0, 1, 1);
        is("two sales of a stem", hall.ofBuyer(0, 7), 2);
        order(hall, 1, 10, 19);
        hall.bring(0, 90, 1);
        is("clock", hall.clock(), 19);
        is("no buckets are left", hall.ofBuyer(1, 7), 0);
        is("no deposit", hall.ofBuyer(1, 0), 1810);
    }

    private static void p15Presell() {
        Bloomclock hall = withLot(50);
        hall.buyer(0);
        order(hall, 0, 50, 5);
        refuses("no lot", hall, NO_SUCH, () -> hall.presell(1, 0, 0, 0));
        refuses("no lot -1", hall, NO_SUCH, () -> hall.presell(-1, 0, 1, 1));
        refuses("no buyer", hall, NO_SUCH, () -> hall.presell(0, 1, 0, 0));
        refuses("no buyer -1", hall, NO_SUCH, () -> hall.presell(0, -1, 1, 1));
        refuses("stems 0", hall, WRONG, () -> hall.presell(0, 0, 0, 1));
        refuses("price 0", hall, WRONG, () -> hall.presell(0, 0, 1, 0));
        refuses("price 100", hall, WRONG, () -> hall.presell(0, 0, 99, 100));
        refuses("more than there are", hall, REFUSED, () -> hall.presell(0, 0, 51, 1));
        refuses("very many", hall, REFUSED, () -> hall.presell(0, 0, Integer.MAX_VALUE, 99));
        refuses("more than its coins pay", hall, REFUSED, () -> hall.presell(0, 0, 50, 41));
        is("all its coins", hall.presell(0, 0, 50, 40), 1900);
        is("below 0 by the deposit", hall.ofBuyer(0, 0), -6);
        is("sold", hall.ofLot(0, 7), 2);
        is("no order is less", hall.wants(0), 5);
        int[] due = {0, 0, 50, 40, 12};
        for (int what = 0; what <= 4; what++) {
            is("the sale", hall.sale(0, what), due[what]);
        }
        Bloomclock row = withLot(50);
        row.buyer(0);
        row.bring(0, 90, 1);
        refuses("one in the row", row, REFUSED, () -> row.presell(0, 0, 1, 1));
        row.clock();
        is("19 coins: no fee", row.presell(0, 0, 1, 19), 19);
        is("20 coins: a fee of 1", row.presell(0, 0, 1, 20), 19);
        is("the hall", row.many(9), 1 + 4);
    }

    private static void p16Undo() {
        Bloomclock hall = withLot(50);
        refuses("no sale", hall, REFUSED, hall::undo);
        hall.buyer(0);
        order(hall, 0, 50, 25);
        hall.pass(1, 0);
        long before = hall.digest();
        hall.presell(0, 0, 50, 33);
        is("undo", hall.undo(), 50);
        is("all is taken back", hall.digest(), before);
        refuses("once", hall, REFUSED, hall::undo);
        hall.bring(0, 87, 5);
        hall.clock();
        is("wants", hall.wants(0), 0);
        is("undo", hall.undo(), 25);
        is("wants again", hall.wants(0), 25);
        is("coins of the buyer", hall.ofBuyer(0, 0), 2000);
        is("buckets of the buyer", hall.ofBuyer(0, 7), 0);
        is("coins of the grower", hall.ofGrower(0, 0), 100);
        is("sold", hall.ofGrower(0, 3), 0);
        is("brought stays", hall.ofGrower(0, 4), 50);
        is("coins of the hall", hall.many(9), 0);
        is("sold in all", hall.many(11), 0);
        is("trolleys", hall.many(7), 0);
        is("mean", hall.meanPrice(), 0.0);
        whatCanNotBeUndone();
        undoOfOneInTheRow();
    }

    private static void whatCanNotBeUndone() {
        Bloomclock late = withLot(50);
        late.buyer(0);
        late.presell(0, 0, 10, 5);
        late.pass(1, 0);
        refuses("an hour later", late, REFUSED, late::undo);
        late.presell(0, 0, 10, 6);
        is("the latest one", late.undo(), 10);
        refuses("the one ahead of it", late, REFUSED, late::undo);
        Bloomclock cleared = withLot(50);
        cleared.buyer(0);
        cleared.presell(0, 0, 10, 5);
        cleared.clear(0, true);
        refuses("a lot that is cleared", cleared, REFUSED, cleared::undo);
        Bloomclock back = withLot(50);
        back.buyer(0);
        back.presell(0, 0, 21, 5);
        back.back(0, 1);
        refuses("buckets that are back", back, REFUSED, back::undo);
        back.presell(0, 0, 5, 5);
        is("with others", back.undo(), 5);
        Bloomclock kept = withLot(50);
        kept.buyer(0);
        for (int i = 0; i < 22; i++) {
            kept.presell(0, 0, 1, 1);
        }
        for (int i = 0; i < 20; i++) {
            is("undo of one that is kept", kept.undo(), 1);
        }
        refuses("one that is not kept any more", kept, REFUSED, kept::undo);
        is("stems", kept.many(11), 2);
        is("trolleys", kept.many(7), 2);
    }

    private static void undoOfOneInTheRow() {
        Bloomclock hall = withLot(50);
        hall.buyer(0);
        hall.presell(0, 0, 20, 3);
        hall.bring(0, 9, 9);
        is("undo", hall.undo(), 20);
        is("it stays in the row", hall.ofLot(0, 7), 1);
        is("with all its stems", hall.ofLot(0, 2), 50);
        is("and buckets", hall.ofLot(0, 5), 3);
    }

    private static void p17Speed() {
        Bloomclock hall = withLot(50);
        is("speed", hall.speed(9), 2);
        is("speed", hall.speed(1), 9);
        refuses("speed 0", hall, WRONG, () -> hall.speed(0));
        refuses("speed 10", hall, WRONG, () -> hall.speed(10));
        is("speed", hall.speed(3), 1);
        hall.buyer(0);
        for (int i = 0; i < 7; i++) {
            hall.presell(0, 0, 1, 1);
        }
        is("3 an hour", hall.pass(2, 0), 6);
    }

    private static void p18Bind() {
        Bloomclock hall = grown();
        hall.cut(0, 50);
        hall.cut(1, 50);
        hall.cut(2, 50);
        hall.buyer(0);
        hall.presell(0, 0, 21, 1);
        hall.presell(1, 0, 5, 1);
        hall.presell(2, 0, 2, 1);
        is("no stock on the rail", hall.bind(0, 1), 0);
        hall.pass(2, 0);
        is("as many as at most", hall.bind(0, 2), 2);
        is("3 of 0", hall.ofBuyer(0, 4), 15);
        is("2 of 1", hall.ofBuyer(0, 5), 1);
        is("1 of 2", hall.ofBuyer(0, 6), 0);
        is("one with 1 of 1 and 2 more for each that lacks", hall.bind(0, 1), 1);
        is("7 of 0", hall.ofBuyer(0, 4), 8);
        is("no more of 1", hall.ofBuyer(0, 5), 0);
        is("9 of 0 are needed", hall.bind(0, 9), 0);
        is("bouquets", hall.ofBuyer(0, 8), 3);
        hall.presell(0, 0, 1, 1);
        hall.pass(1, 0);
        is("9 of 0", hall.bind(0, 99), 1);
        is("none are left", hall.ofBuyer(0, 4), 0);
        is("bouquets", hall.ofBuyer(0, 8), 4);
        refuses("no buyer", hall, NO_SUCH, () -> hall.bind(1, 0));
        refuses("no buyer -1", hall, NO_SUCH, () -> hall.bind(-1, 1));
        refuses("0 bouquets", hall, WRONG, () -> hall.bind(0, 0));
        refuses("100 bouquets", hall, WRONG, () -> hall.bind(0, 100));
    }

    private static void p19Back() {
        Bloomclock hall = withLot(100);
        hall.buyer(0);
        hall.presell(0, 0, 60, 1);
        is("the pool", hall.many(8), 55);
        is("back", hall.back(0, 2), 57);
        is("buckets", hall.ofBuyer(0, 7), 1);
        is("coins", hall.ofBuyer(0, 0), 2000 - 60 - 6 + 4);
        is("coins of the hall", hall.many(9), 3 + 6 - 4);
        refuses("no buyer", hall, NO_SUCH, () -> hall.back(1, 0));
        refuses("no buyer -1", hall, NO_SUCH, () -> hall.back(-1, 1));
        refuses("0 buckets", hall, WRONG, () -> hall.back(0, 0));
        refuses("more than it has", hall, REFUSED, () -> hall.back(0, 2));
        refuses("very many", hall, REFUSED, () -> hall.back(0, Integer.MAX_VALUE));
        is("back", hall.back(0, 1), 58);
        is("all deposits are back", hall.ofBuyer(0, 0), 1940);
        is("the fee is left", hall.many(9), 3);
    }

    private static void p20Clear() {
        Bloomclock hall = withLot(50);
        hall.cut(0, 7);
        hall.cut(0, 7);
        is("clear", hall.clear(0, false), 50);
        int[] due = {0, 0, 0, 0, 90, 0, 1, 3, -1, -1};
        for (int what = 0; what <= 9; what++) {
            is("ofLot of one that is cleared", hall.ofLot(0, what), due[what]);
        }
        is("the pool", hall.many(8), 58);
        is("waste", hall.many(10), 50);
        is("mark", hall.ofGrower(0, 2), 50);
        is("clear", hall.clear(1, true), 7);
        is("mark of one that gives", hall.ofGrower(0, 2), 51);
        refuses("once", hall, REFUSED, () -> hall.clear(1, true));
        refuses("no lot", hall, NO_SUCH, () -> hall.clear(3, true));
        refuses("no lot -1", hall, NO_SUCH, () -> hall.clear(-1, true));
        hall.bring(2, 5, 5);
        refuses("one in the row", hall, REFUSED, () -> hall.clear(2, false));
        for (int i = 0; i < 25; i++) {
            hall.inspect(2);
        }
        hall.clock();
        hall.clear(2, true);
        is("mark is 100 at most", hall.ofGrower(0, 2), 100);
    }

    private static void p21Vote() {
        Bloomclock none = new Bloomclock();
        is("a vote without growers", none.vote(0, 5), 0);
        is("the quota stays", none.many(12), 500);
        Bloomclock hall = withLot(10);
        hall.grower();
        hall.plant(1, 0, 100);
        hall.pass(12, 5);
        hall.cut(1, 30);
        is("a vote of all", hall.vote(0, 999), 2);
        is("the quota", hall.many(12), 999);
        is("that of the others", hall.many(13) + hall.many(14), 1000);
        hall.bring(0, 1, 1);
        is("as much for it as against it", hall.vote(0, 9), 1);
        is("the quota stays", hall.many(12), 999);
        is("no more than it", hall.vote(0, 10), 2);
        is("the quota", hall.many(12), 10);
        is("of another cultivar", hall.vote(1, 0), 2);
        is("the quota of 1", hall.many(13), 0);
        hall.buyer(0);
        hall.presell(1, 0, 7, 1);
        is("stems that were sold weigh", hall.vote(0, 3), 8);
        is("the quota", hall.many(12), 3);
        hall.undo();
        is("less what was undone", hall.vote(0, 2), 1);
        is("the quota stays", hall.many(12), 3);
        refuses("cultivar 3", hall, NO_SUCH, () -> hall.vote(3, 1000));
        refuses("cultivar -1", hall, NO_SUCH, () -> hall.vote(-1, 0));
        refuses("quota -1", hall, WRONG, () -> hall.vote(0, -1));
        refuses("quota 1000", hall, WRONG, () -> hall.vote(0, 1000));
    }

    private static void p22OfCrop() {
        Bloomclock hall = grown();
        hall.cut(1, 30);
        int[] due = {0, 1, 170, 120, 1, 6};
        for (int what = 0; what <= 5; what++) {
            is("ofCrop", hall.ofCrop(1, what), due[what]);
        }
        refuses("no crop", hall, NO_SUCH, () -> hall.ofCrop(3, 6));
        refuses("no crop -1", hall, NO_SUCH, () -> hall.ofCrop(-1, 0));
        refuses("what 6", hall, WRONG, () -> hall.ofCrop(0, 6));
        refuses("what -1", hall, WRONG, () -> hall.ofCrop(0, -1));
    }

    private static void p23OfLot() {
        Bloomclock hall = grown();
        hall.grower();
        hall.plant(1, 1, 50);
        hall.pass(31, 3);
        hall.cut(3, 41);
        hall.move(0, 2);
        hall.bring(0, 60, 17);
        hall.pass(2, 0);
        int[] due = {1, 1, 41, 0, 70 - 2 - 12, 3, 2, 1, 60, 17};
        for (int what = 0; what <= 9; what++) {
            is("ofLot " + what, hall.ofLot(0, what), due[what]);
        }
        refuses("no lot", hall, NO_SUCH, () -> hall.ofLot(1, 10));
        refuses("no lot -1", hall, NO_SUCH, () -> hall.ofLot(-1, 0));
        refuses("what 10", hall, WRONG, () -> hall.ofLot(0, 10));
        refuses("what -1", hall, WRONG, () -> hall.ofLot(0, -1));
    }

    private static void p24OfGrower() {
        Bloomclock hall = withLot(50);
        hall.lamps(0, 2);
        hall.pass(1, 0);
        hall.buyer(0);
        hall.presell(0, 0, 20, 10);
        hall.bring(0, 5, 5);
        hall.inspect(0);
        int[] due = {100 - 2 + 190, 2, 52, 20, 30};
        for (int what = 0; what <= 4; what++) {
            is("ofGrower", hall.ofGrower(0, what), due[what]);
        }
        hall.pass(11, 0);
        is("brought on a new day", hall.ofGrower(0, 4), 0);
        refuses("no grower", hall, NO_SUCH, () -> hall.ofGrower(1, 5));
        refuses("no grower -1", hall, NO_SUCH, () -> hall.ofGrower(-1, 0));
        refuses("what 5", hall, WRONG, () -> hall.ofGrower(0, 5));
        refuses("what -1", hall, WRONG, () -> hall.ofGrower(0, -1));
    }

    private static void p25OfBuyer() {
        Bloomclock hall = grown();
        hall.cut(0, 50);
        hall.cut(1, 50);
        hall.cut(2, 50);
        hall.buyer(8);
        hall.even(0, 3);
        hall.leave(0, 77);
        hall.presell(0, 0, 14, 1);
        hall.presell(1, 0, 5, 1);
        hall.presell(2, 0, 6, 1);
        hall.pass(2, 0);
        hall.bind(0, 1);
        int[] due = {2000 - 25 - 6, 8, 3, 77, 11, 3, 5, 3, 1};
        for (int what = 0; what <= 8; what++) {
            is("ofBuyer " + what, hall.ofBuyer(0, what), due[what]);
        }
        refuses("no buyer", hall, NO_SUCH, () -> hall.ofBuyer(1, 9));
        refuses("no buyer -1", hall, NO_SUCH, () -> hall.ofBuyer(-1, 0));
        refuses("what 9", hall, WRONG, () -> hall.ofBuyer(0, 9));
        refuses("what -1", hall, WRONG, () -> hall.ofBuyer(0, -1));
    }

    private static void p26Wants() {
        Bloomclock hall = withLot(30);
        refuses("no order", hall, NO_SUCH, () -> hall.wants(0));
        hall.buyer(0);
        order(hall, 0, 9, 50);
        is("wants", hall.wants(0), 50);
        hall.bring(0, 1, 1);
        hall.clock();
        is("less by what it takes", hall.wants(0), 20);
        refuses("no order 1", hall, NO_SUCH, () -> hall.wants(1));
        refuses("no order -1", hall, NO_SUCH, () -> hall.wants(-1));
    }

    private static void p27Sale() {
        Bloomclock hall = withLot(60);
        refuses("no sale", hall, NO_SUCH, () -> hall.sale(0, 5));
        hall.buyer(0);
        hall.buyer(0);
        for (int i = 1; i <= 20; i++) {
            hall.presell(0, i % 2, 1, i);
        }
        is("the latest one", hall.sale(0, 3), 20);
        is("the oldest one", hall.sale(19, 3), 1);
        refuses("a 21st one", hall, NO_SUCH, () -> hall.sale(20, 0));
        hall.pass(3, 0);
        hall.presell(0, 1, 2, 21);
        is("as the 21st would be kept", hall.sale(19, 3), 2);
        refuses("20 are kept", hall, NO_SUCH, () -> hall.sale(20, 0));
        int[] due = {0, 1, 2, 21, 15};
        for (int what = 0; what <= 4; what++) {
            is("sale", hall.sale(0, what), due[what]);
        }
        hall.undo();
        is("one that is undone is not kept", hall.sale(0, 3), 20);
        refuses("19 are kept", hall, NO_SUCH, () -> hall.sale(19, 0));
        refuses("no sale -1", hall, NO_SUCH, () -> hall.sale(-1, 0));
        refuses("what 5", hall, WRONG, () -> hall.sale(0, 5));
        refuses("what -1", hall, WRONG, () -> hall.sale(0, -1));
    }

    private static void p28Row() {
        Bloomclock hall = withLot(10);
        hall.cut(0, 10);
        hall.cut(0, 10);
        is("an empty row", hall.row(0), -1);
        hall.bring(2, 1, 1);
        hall.bring(0, 1, 1);
        is("row", hall.row(0), 2);
        is("row", hall.row(1), 0);
        is("row", hall.row(2), -1);
        is("row", hall.row(Integer.MAX_VALUE), -1);
        refuses("place -1", hall, WRONG, () -> hall.row(-1));
        refuses("the least place", hall, WRONG, () -> hall.row(Integer.MIN_VALUE));
        hall.clock();
        is("the row goes on", hall.row(0), 0);
        is("the row goes on", hall.row(1), -1);
    }

    private static void p29Many() {
        Bloomclock hall = grown();
        hall.grower();
        hall.cut(0, 50);
        hall.cut(1, 50);
        hall.cut(1, 10);
        hall.clear(2, false);
        hall.buyer(0);
        hall.buyer(0);
        hall.buyer(0);
        hall.order(0, 0, 0, 0, 0, 1, 1);
        hall.presell(0, 0, 30, 30);
        hall.presell(1, 0, 25, 8);
        hall.pass(1, 0);
        hall.presell(1, 1, 1, 1);
        hall.presell(0, 1, 1, 1);
        hall.bring(0, 1, 1);
        hall.vote(0, 111);
        hall.vote(1, 222);
        hall.vote(2, 333);
        int hall9 = 45 + 10 + 4 + 4 + 2 + 2;
        int[] due = {25, 2, 3, 3, 3, 1, 1, 2, 54, hall9, 10, 57, 111, 222, 333, 55};
        for (int what = 0; what <= 15; what++) {
            is("many(" + what + ")", hall.many(what), due[what]);
        }
        refuses("what 16", hall, WRONG, () -> hall.many(16));
        refuses("what -1", hall, WRONG, () -> hall.many(-1));
    }

    private static void p30MeanPrice() {
        Bloomclock hall = withLot(60);
        hall.buyer(0);
        is("without any", hall.meanPrice(), 0.0);
        hall.presell(0, 0, 2, 10);
        is("one price", hall.meanPrice(), 10.0);
        hall.presell(0, 0, 1, 11);
        is("not cut", hall.meanPrice(), 31.0 / 3.0);
        hall.undo();
        is("less what was undone", hall.meanPrice(), 10.0);
        hall.presell(0, 0, 5, 1);
        is("by stems", hall.meanPrice(), 25.0 / 7.0);
        hall.undo();
        hall.undo();
        is("all is undone", hall.meanPrice(), 0.0);
        hall.presell(0, 0, 1, 7);
        is("of one stem", hall.meanPrice(), 7.0);
    }

    private static void p31WouldFetch() {
        Bloomclock hall = withLot(60);
        is("without orders", hall.wouldFetch(0), -1);
        hall.buyer(3);
        hall.buyer(0);
        hall.order(0, 0, 0, 90, 0, 70, 10);
        order(hall, 1, 60, 10);
        is("with its life as what is told", hall.wouldFetch(0), 67);
        hall.bring(0, 5, 99);
        is("in the row: its life again, and a minimum of 1", hall.wouldFetch(0), 67);
        hall.pass(1, 0);
        is("with less life", hall.wouldFetch(0), 60);
        hall.presell(hall.cut(0, 20), 1, 20, 99);
        is("coins are too few: one is out", hall.wouldFetch(0), -1);
        hall.undo();
        is("undone", hall.wouldFetch(0), 60);
        hall.clock();
        hall.clear(0, false);
        is("without stems", hall.wouldFetch(0), -1);
        refuses("no lot", hall, NO_SUCH, () -> hall.wouldFetch(2));
        refuses("no lot -1", hall, NO_SUCH, () -> hall.wouldFetch(-1));
        Bloomclock late = withLot(60);
        late.buyer(9);
        order(late, 0, 9, 1);
        is("a price of 0", late.wouldFetch(0), -1);
        order(late, 0, 10, 1);
        is("a price of 1", late.wouldFetch(0), 1);
    }

    private static void p32BestMinimum() {
        Bloomclock hall = withLot(60);
        is("nobody takes", hall.bestMinimum(0), 99);
        for (int i = 0; i < 4; i++) {
            hall.buyer(i);
        }
        order(hall, 0, 80, 10);
        order(hall, 1, 70, 10);
        is("both take", hall.bestMinimum(0), 69);
        order(hall, 2, 3, 5);
        is("a coin is more than none", hall.bestMinimum(0), 1);
        order(hall, 3, 50, 40);
        is("the stems end ahead of it", hall.bestMinimum(0), 47);
        hall.bring(0, 0, 90);
        is("in the row", hall.bestMinimum(0), 47);
        refuses("no lot", hall, NO_SUCH, () -> hall.bestMinimum(1));
        refuses("no lot -1", hall, NO_SUCH, () -> hall.bestMinimum(-1));
        int best = 0;
        int most = 0;
        for (int minimum = 1; minimum <= 99; minimum++) {
            int coins = coinsWith(minimum);
            best = coins >= most ? minimum : best;
            most = Math.max(most, coins);
        }
        is("as the clock says with each minimum", hall.bestMinimum(0), best);
    }

    private static int coinsWith(int minimum) {
        Bloomclock hall = withLot(60);
        for (int i = 0; i < 4; i++) {
            hall.buyer(i);
        }
        order(hall, 0, 80, 10);
        order(hall, 1, 70, 10);
        order(hall, 2, 3, 5);
        order(hall, 3, 50, 40);
        hall.bring(0, 90, minimum);
        hall.clock();
        return hall.ofGrower(0, 0);
    }

    private static void p33ReadyIn() {
        Bloomclock hall = new Bloomclock();
        hall.grower();
        hall.plant(0, 0, 1);
        hall.plant(0, 2, 1);
        is("5 an hour", hall.readyIn(0), 12);
        hall.lamps(0, 3);
        is("8 an hour", hall.readyIn(0), 8);
        hall.pass(7, 5);
        is("one more", hall.readyIn(0), 1);
        is("the other: 64 by 8", hall.readyIn(1), 8);
        hall.pass(1, 0);
        is("1 by 3", hall.readyIn(0), 1);
        is("61 by 3", hall.readyIn(1), 21);
        hall.lamps(0, 0);
        is("never", hall.readyIn(0), -1);
        hall.lamps(0, 1);
        is("61 by 1", hall.readyIn(1), 61);
        hall.lamps(0, 0);
        hall.pass(1, 1);
        is("it is", hall.readyIn(0), 0);
        hall.pass(1, 0);
        is("it is, without light", hall.readyIn(0), 0);
        refuses("no crop", hall, NO_SUCH, () -> hall.readyIn(2));
        refuses("no crop -1", hall, NO_SUCH, () -> hall.readyIn(-1));
    }

    private static void p34LampsFor() {
        Bloomclock hall = new Bloomclock();
        is("60 by 5", hall.lampsFor(0, 12), 0);
        is("60 by 6", hall.lampsFor(0, 10), 1);
        is("60 by 8", hall.lampsFor(0, 8), 3);
        is("too few", hall.lampsFor(0, 7), -1);
        is("90 by 5", hall.lampsFor(1, 18), 0);
        is("120 by 6", hall.lampsFor(2, 23), 1);
        is("120 by 5", hall.lampsFor(2, 24), 0);
        is("an hour", hall.lampsFor(2, 1), -1);
        hall.pass(1, 0);
        is("without light", hall.lampsFor(0, 200), 1);
        is("without light", hall.lampsFor(0, 30), 2);
        refuses("cultivar 3", hall, NO_SUCH, () -> hall.lampsFor(3, 0));
        refuses("cultivar -1", hall, NO_SUCH, () -> hall.lampsFor(-1, 1));
        refuses("hours 0", hall, WRONG, () -> hall.lampsFor(0, 0));
        refuses("hours 201", hall, WRONG, () -> hall.lampsFor(0, 201));
    }

    private static void p35Digest() {
        Bloomclock fresh = new Bloomclock();
        long d = 58185L;
        int[] numbers = {0, 0, 0, 0, 0, 0, 0, 0, 60, 0, 0, 0, 500, 500, 500, -1, -1, -1, -1, 0, 3, -1};
        for (int v : numbers) {
            d = d * 31 + v;
        }
        is("digest of a new one", fresh.digest(), d);
        Bloomclock hall = grown();
        hall.lamps(0, 1);
        hall.cut(0, 50);
        hall.cut(1, 50);
        hall.buyer(4);
        hall.buyer(2);
        order(hall, 0, 20, 30);
        order(hall, 1, 17, 9);
        hall.bring(0, 77, 3);
        hall.bring(1, 66, 2);
        hall.clock();
        hall.presell(0, 1, 1, 2);
        is("digest", hall.digest(), digestByQuestions(hall));
        is("digest changes nothing", hall.digest(), digestByQuestions(hall));
    }

    private static long digestByQuestions(Bloomclock hall) {
        long d = 58185L;
        for (int i = 0; i <= 15; i++) {
            d = d * 31 + hall.many(i);
        }
        for (int i = 0; i < hall.many(1) * 5; i++) {
            d = d * 31 + hall.ofGrower(i / 5, i % 5);
        }
        for (int i = 0; i < hall.many(2) * 7; i++) {
            d = d * 31 + (i % 7 < 6 ? hall.ofCrop(i / 7, i % 7) : hall.readyIn(i / 7));
        }
        for (int i = 0; i < hall.many(3) * 12; i++) {
            int lot = i / 12;
            d = d * 31 + (i % 12 < 10 ? hall.ofLot(lot, i % 12)
                    : i % 12 == 10 ? hall.wouldFetch(lot) : hall.bestMinimum(lot));
        }
        for (int i = 0; i < hall.many(4) * 9; i++) {
            d = d * 31 + hall.ofBuyer(i / 9, i % 9);
        }
        for (int i = 0; i < hall.many(5); i++) {
            d = d * 31 + hall.wants(i);
        }
        for (int i = 0; i < 3 * 5; i++) {
            d = d * 31 + hall.sale(i / 5, i % 5);
        }
        for (int i = 0; i <= 2; i++) {
            d = d * 31 + hall.row(i);
        }
        for (int i = 0; i <= 2; i++) {
            d = d * 31 + hall.lampsFor(i, 12);
        }
        return d;
    }

    public static void main(String[] args) {
        p1NewObject();
        p2Grower();
        p3Lamps();
        p4Plant();
        p5Cut();
        p6Move();
        p7Pass();
        p8Bring();
        p9Inspect();
        p10Buyer();
        p11Even();
        p12Leave();
        p13Order();
        p14Clock();
        p15Presell();
        p16Undo();
        p17Speed();
        p18Bind();
        p19Back();
        p20Clear();
        p21Vote();
        p22OfCrop();
        p23OfLot();
        p24OfGrower();
        p25OfBuyer();
        p26Wants();
        p27Sale();
        p28Row();
        p29Many();
        p30MeanPrice();
        p31WouldFetch();
        p32BestMinimum();
        p33ReadyIn();
        p34LampsFor();
        p35Digest();
        ends();
    }
}
