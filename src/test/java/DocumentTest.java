import java.io.IOException;
import java.lang.reflect.Method;
import java.lang.reflect.Modifier;
import java.nio.file.Files;
import java.nio.file.Path;
import java.util.ArrayList;
import java.util.Arrays;
import java.util.List;

/** The document from its first line to its last: its head and "Terms"; the promises stand in DocumentPromises. */
public final class DocumentTest extends Document {
    private static final Path SOURCE = Path.of("src/main/java/Bloomclock.java");

    private static final String[] FACE = {
        "public int grower() throws IllegalStateException;",
        "public int lamps(int grower, int lamps) throws IndexOutOfBoundsException, IllegalArgumentException;",
        "public int plant(int grower, int cultivar, int plants) throws IndexOutOfBoundsException, IllegalArgumentException, IllegalStateException;",
        "public int cut(int crop, int stems) throws IndexOutOfBoundsException, IllegalArgumentException, IllegalStateException;",
        "public int move(int lot, int place) throws IndexOutOfBoundsException, IllegalArgumentException, IllegalStateException;",
        "public int pass(int hours, int light) throws IllegalArgumentException;",
        "public int bring(int lot, int told, int minimum) throws IndexOutOfBoundsException, IllegalArgumentException, IllegalStateException;",
        "public int inspect(int lot) throws IndexOutOfBoundsException, IllegalStateException;",
        "public int buyer(int latency) throws IllegalArgumentException, IllegalStateException;",
        "public int even(int buyer, int much) throws IndexOutOfBoundsException, IllegalArgumentException;",
        "public int leave(int buyer, int hour) throws IndexOutOfBoundsException, IllegalArgumentException;",
        "public int order(int buyer, int cultivar, int grade, int shown, int mark, int limit, int stems) throws IndexOutOfBoundsException, IllegalArgumentException, IllegalStateException;",
        "public int clock() throws IllegalStateException;",
        "public int presell(int lot, int buyer, int stems, int price) throws IndexOutOfBoundsException, IllegalArgumentException, IllegalStateException;",
        "public int undo() throws IllegalStateException;",
        "public int speed(int speed) throws IllegalArgumentException;",
        "public int bind(int buyer, int many) throws IndexOutOfBoundsException, IllegalArgumentException;",
        "public int back(int buyer, int many) throws IndexOutOfBoundsException, IllegalArgumentException, IllegalStateException;",
        "public int clear(int lot, boolean isGiven) throws IndexOutOfBoundsException, IllegalStateException;",
        "public int vote(int cultivar, int quota) throws IndexOutOfBoundsException, IllegalArgumentException;",
        "public int ofCrop(int crop, int what) throws IndexOutOfBoundsException, IllegalArgumentException;",
        "public int ofLot(int lot, int what) throws IndexOutOfBoundsException, IllegalArgumentException;",
        "public int ofGrower(int grower, int what) throws IndexOutOfBoundsException, IllegalArgumentException;",
        "public int ofBuyer(int buyer, int what) throws IndexOutOfBoundsException, IllegalArgumentException;",
        "public int wants(int order) throws IndexOutOfBoundsException;",
        "public int sale(int k, int what) throws IndexOutOfBoundsException, IllegalArgumentException;",
        "public int row(int k) throws IllegalArgumentException;",
        "public int many(int what) throws IllegalArgumentException;",
        "public double meanPrice();",
        "public int wouldFetch(int lot) throws IndexOutOfBoundsException;",
        "public int bestMinimum(int lot) throws IndexOutOfBoundsException;",
        "public int readyIn(int crop) throws IndexOutOfBoundsException;",
        "public int lampsFor(int cultivar, int hours) throws IndexOutOfBoundsException, IllegalArgumentException;",
        "public long digest();"
    };

    // ---- the head

    private static void theHead() {
        tells("# Bloomclock ## What it is A flower auction.");

        says("An object is used for at most 512 calls after it has been made; what later calls answer is free.");
        Bloomclock hall = new Bloomclock();
        for (int i = 1; i <= 510; i++) {
            is("the HOUR ahead of it", answer(() -> hall.pass(1, 9)), "0");
        }
        is("the 511th call", hall.grower(), 0);
        is("the 512th call", hall.many(0), 510);
    }

    private static void theFace() {
        tells("## The public face");

        says("public final class Bloomclock {");
        is("public and final", Modifier.toString(Bloomclock.class.getModifiers()), "public final");
        is("no package", Bloomclock.class.getName(), "Bloomclock");
        is("fields of the face", Bloomclock.class.getFields().length, 0);

        says("public Bloomclock();");
        is("constructors", Bloomclock.class.getDeclaredConstructors().length, 1);
        is("public constructors without arguments", Bloomclock.class.getConstructors()[0].getParameterCount(), 0);

        List<String> got = new ArrayList<>();
        for (Method method : Bloomclock.class.getDeclaredMethods()) {
            if (!Modifier.isPrivate(method.getModifiers())) {
                got.add(FaceTest.written(method));
            }
        }
        for (String line : FACE) {
            says(line);
            is(line, got.remove(FaceTest.withoutNames(line)), true);
        }

        says("}");
        is("what stands in no line of the face", got.toString(), "[]");
    }

    // ---- what it does, in one run

    private static void whatItsCallsDo() {
        tells("## Terms");

        says("Its calls: growers plant and cut, lots are told with their life and brought into a row, buyers tell "
                + "orders and when they leave, a clock falls and sells lot by lot, trolleys go by a rail, bouquets "
                + "are bound, buckets come back, growers vote; hours pass in which crops grow and all life falls by "
                + "warmth; and one asks how each crop, lot and trolley stands, who took what at which price, what "
                + "each one has in coins, stems and buckets, how reliable a grower is, and what would be.");
        Bloomclock hall = new Bloomclock();
        is("a GROWER", hall.grower(), 0);
        is("plants", hall.plant(0, 0, 100), 0);
        is("a BUYER", hall.buyer(2), 0);
        is("its LAMPS", hall.lamps(0, 1), 0);
        is("what would be", hall.readyIn(0), 10);
        is("HOURS pass", hall.pass(10, 5), 0);
        is("cuts", hall.cut(0, 40), 0);
        is("is told with its LIFE", hall.bring(0, 90, 10), 1);
        is("how reliable it is", hall.inspect(0), 52);
        is("tells an ORDER", hall.order(0, 0, 2, 0, 52, 60, 25), 0);
        is("and when it leaves", hall.leave(0, 20), -1);
        is("what would be", hall.wouldFetch(0), 58);
        is("a clock falls and sells", hall.clock(), 25);
        are("what, who, how much, at which PRICE, when", i -> hall.sale(0, i), 0, 0, 25, 58, 10);
        is("the rail", hall.many(7), 1);
        is("the LIFE of its TROLLEY", hall.many(15), 90);
        is("COINS: 1450 and 2 DEPOSITS", hall.ofBuyer(0, 0), 2000 - 1450 - 4);
        is("COINS: 1450 less a FEE of 72, less 10 of LAMPS", hall.ofGrower(0, 0), 100 - 10 + 1378);
        is("COINS of the HALL", hall.many(9), 72 + 4);
        is("trolleys go by a rail", hall.pass(1, 5), 1);
        is("all LIFE falls by warmth", hall.ofLot(0, 4), 87);
        is("STEMS in the STOCK", hall.ofBuyer(0, 4), 25);
        is("bouquets are bound", hall.bind(0, 5), 2);
        is("BUCKETS come back", hall.back(0, 2), 60);
        is("GROWERS vote", hall.vote(0, 40), 26);
    }

    private static void numbersAndNone() {
        says("All numbers are whole; what is divided is rounded down, if nothing else is said.");
        Bloomclock hall = withLot(60);
        hall.buyer(0);
        is("a FEE of 39 / 20", hall.presell(0, 0, 1, 39), 38);
        is("the HALL has 1 of it, and a DEPOSIT", hall.many(9), 1 + 2);
        order(hall, 0, 40, 60);
        hall.bring(0, 90, 1);
        is("1959 COINS / 40", hall.clock(), 48);
        is("what is said else", hall.meanPrice(), (39 + 48 * 40) / 49.0);

        says("NONE is -1.");
        is("row", hall.row(0), -1);
        is("LEAVING HOUR", hall.leave(0, -1), -1);
        is("the least LIFE on an empty rail", new Bloomclock().many(15), -1);
        is("lampsFor", hall.lampsFor(2, 1), -1);
        is("wouldFetch of one that nobody takes", withLot(1).wouldFetch(0), -1);
        is("what is TOLD of one that was never BROUGHT", withLot(1).ofLot(0, 8), -1);
    }

    // ---- section 1

    private static void growers() {
        says("1 GROWERS: at most 4, numbered from 0,");
        Bloomclock hall = new Bloomclock();
        for (int i = 0; i < 4; i++) {
            is("its number", hall.grower(), i);
        }
        refuses("a fifth one", hall, REFUSED, hall::grower);

        says("each with COINS (100 at first, may be below 0),");
        is("at first", hall.ofGrower(3, 0), 100);
        hall.lamps(3, 3);
        hall.pass(34, 0);
        is("below 0", hall.ofGrower(3, 0), -2);
        is("of each", hall.ofGrower(2, 0), 100);

        says("LAMPS (0 to 3; 0),");
        is("0 at first", hall.ofGrower(0, 1), 0);
        is("3", hall.lamps(0, 3), 0);
        is("0", hall.lamps(0, 0), 3);
        refuses("4", hall, WRONG, () -> hall.lamps(0, 4));
        refuses("-1", hall, WRONG, () -> hall.lamps(0, -1));

        says("and a MARK (0 to 100; 50): how reliable it is.");
        is("50 at first", hall.ofGrower(0, 2), 50);
        Bloomclock marks = withLot(1);
        marks.bring(0, 90, 1);
        for (int i = 1; i <= 27; i++) {
            is("100 at most", marks.inspect(0), Math.min(100, 50 + 2 * i));
        }
        for (int i = 1; i <= 12; i++) {
            marks.pass(1, 0);
            is("0 at least", marks.inspect(0), Math.max(0, 100 - 10 * i));
        }
    }

    private static void cultivarsAndCrops() {
        says("CULTIVARS 0, 1, 2: they are READY at a SUM of light of 60, 90, 120;");
        int[] asked = {60, 90, 120};
        for (int cultivar = 0; cultivar < 3; cultivar++) {
            Bloomclock hall = new Bloomclock();
            hall.grower();
            hall.plant(0, cultivar, 1);
            hall.pass(asked[cultivar] / 6 - 1, 6);
            hall.pass(1, 5);
            is("one less", hall.ofCrop(0, 3), asked[cultivar] - 1);
            is("not READY", hall.ofCrop(0, 4), 0);
            hall.pass(1, 1);
            is("that SUM", hall.ofCrop(0, 3), asked[cultivar]);
            is("READY", hall.ofCrop(0, 4), 1);
        }

        says("fresh ones have a LIFE of 90, 70, 110.");
        int[] life = {90, 70, 110};
        for (int cultivar = 0; cultivar < 3; cultivar++) {
            Bloomclock hall = new Bloomclock();
            hall.grower();
            hall.plant(0, cultivar, 1);
            hall.pass(12 + 6 * cultivar, 5);
            is("fresh", hall.ofCrop(0, 5), 0);
            is("LIFE", hall.ofLot(hall.cut(0, 1), 4), life[cultivar]);
        }

        says("CROPS: at most 8, numbered from 0,");
        Bloomclock hall = new Bloomclock();
        hall.grower();
        hall.grower();
        for (int i = 0; i < 8; i++) {
            is("its number", hall.plant(i % 2, i % 3, 10 + i), i);
        }
        refuses("a ninth one", hall, REFUSED, () -> hall.plant(0, 0, 1));

        says("each of a GROWER and a CULTIVAR, with PLANTS,");
        for (int i = 0; i < 8; i++) {
            int crop = i;
            are("GROWER, CULTIVAR, PLANTS", what -> hall.ofCrop(crop, what), i % 2, i % 3, 10 + i);
        }

        says("a SUM (0 at first), READY or not, and its AGE: HOURS since it was READY.");
        are("GROWER, CULTIVAR, PLANTS, SUM, READY, AGE", what -> hall.ofCrop(3, what), 1, 0, 13, 0, 0, 0);
        hall.pass(11, 5);
        are("an HOUR ahead of READY", what -> hall.ofCrop(3, what), 1, 0, 13, 55, 0, 0);
        hall.pass(1, 5);
        are("READY", what -> hall.ofCrop(3, what), 1, 0, 13, 60, 1, 0);
        hall.pass(7, 0);
        are("HOURS since", what -> hall.ofCrop(3, what), 1, 0, 13, 60, 1, 7);
    }

    private static void lots() {
        says("To CUT stems of a READY one takes as many of its PLANTS, and makes a LOT of them.");
        Bloomclock cut = grown();
        is("the first LOT", cut.cut(1, 45), 0);
        is("as many of its PLANTS", cut.ofCrop(1, 2), 155);
        is("PLANTS of the others", cut.ofCrop(0, 2) + cut.ofCrop(2, 2), 400);
        is("a LOT of them", cut.ofLot(0, 2), 45);
        cut.plant(0, 0, 10);
        refuses("one that is not READY", cut, REFUSED, () -> cut.cut(3, 1));

        says("LOTS: at most 16 ever, numbered from 0,");
        Bloomclock many = withLot(1);
        many.clear(0, false);
        for (int i = 1; i < 16; i++) {
            is("its number", many.cut(0, 1), i);
        }
        many.clear(1, false);
        refuses("a 17th one ever", many, REFUSED, () -> many.cut(0, 1));

        says("each with its GROWER and CULTIVAR, STEMS,");
        Bloomclock hall = grown();
        hall.grower();
        hall.plant(1, 2, 30);
        hall.pass(24, 5);
        is("of the second one", hall.cut(3, 21), 0);
        is("of the first one", hall.cut(1, 20), 1);
        are("GROWER, CULTIVAR, STEMS", what -> hall.ofLot(0, what), 1, 2, 21);
        are("GROWER, CULTIVAR, STEMS", what -> hall.ofLot(1, what), 0, 1, 20);

        says("a GRADE (0 with an AGE of at most 10 as it was CUT, 1 of at most 20, otherwise 2),");
        int[][] grades = {{0, 0}, {10, 0}, {11, 1}, {20, 1}, {21, 2}, {48, 2}};
        for (int[] each : grades) {
            is("AGE " + each[0], cutAt(0, each[0]).ofLot(0, 3), each[1]);
        }

        says("a LIFE (that of fresh ones less 2 times that AGE, 0 at least),");
        int[][] lives = {{0, 1, 88}, {0, 44, 2}, {0, 45, 0}, {0, 46, 0}, {1, 34, 2}, {1, 36, 0}, {2, 9, 92}, {2, 48, 14}};
        for (int[] each : lives) {
            is("AGE " + each[1], cutAt(each[0], each[1]).ofLot(0, 4), each[2]);
        }
    }

    /** A LOT 0 that was CUT of that CULTIVAR with that AGE (0 to 48). */
    private static Bloomclock cutAt(int cultivar, int age) {
        Bloomclock hall = new Bloomclock();
        hall.grower();
        hall.plant(0, cultivar, 9);
        hall.pass(12 + 6 * cultivar, 5);
        if (age > 0) {
            hall.pass(age, 0);
        }
        hall.cut(0, 9);
        return hall;
    }

    private static void placesStatesAndBuckets() {
        says("BUCKETS, a PLACE: 0 COLD, 1 HALL (at first), 2 DOCK,");
        Bloomclock hall = withLot(21);
        is("BUCKETS", hall.ofLot(0, 5), 2);
        is("HALL at first", hall.ofLot(0, 6), 1);
        is("to the DOCK", hall.move(0, 2), 1);
        is("DOCK", hall.ofLot(0, 6), 2);
        is("to COLD", hall.move(0, 0), 2);
        is("COLD", hall.ofLot(0, 6), 0);
        refuses("no PLACE", hall, WRONG, () -> hall.move(0, 3));

        says("and a STATE: 0 HELD (at first), 1 in the ROW, 2 SOLD (no STEMS are left), 3 CLEARED.");
        is("HELD at first", hall.ofLot(0, 7), 0);
        hall.bring(0, 1, 1);
        is("in the ROW", hall.ofLot(0, 7), 1);
        hall.clock();
        is("HELD again", hall.ofLot(0, 7), 0);
        hall.buyer(0);
        hall.presell(0, 0, 20, 1);
        is("STEMS are left", hall.ofLot(0, 7), 0);
        hall.presell(0, 0, 1, 1);
        is("SOLD", hall.ofLot(0, 7), 2);
        is("no STEMS are left", hall.ofLot(0, 2), 0);
        hall.clear(hall.cut(0, 1), false);
        is("CLEARED", hall.ofLot(1, 7), 3);

        says("BUCKETS hold 20 stems each: a LOT takes as many as its STEMS need from the POOL (60 at first).");
        int[][] due = {{1, 1}, {20, 1}, {21, 2}, {40, 2}, {200, 10}};
        for (int[] each : due) {
            Bloomclock one = withLot(each[0]);
            is("BUCKETS of " + each[0], one.ofLot(0, 5), each[1]);
            is("the POOL", one.many(8), 60 - each[1]);
        }
        is("at first", new Bloomclock().many(8), 60);
    }

    // ---- section 2

    private static void anHour() {
        says("2 AN HOUR passes: HOUR is 1 more (0 at first; the DAY is HOUR, divided by 24).");
        Bloomclock hall = withLot(30);
        is("HOUR", hall.many(0), 12);
        is("0 at first", new Bloomclock().many(0), 0);
        hall.bring(0, 1, 1);
        hall.pass(11, 0);
        is("HOUR 23", hall.many(0), 23);
        is("DAY 0", hall.ofGrower(0, 4), 30);
        hall.pass(1, 0);
        is("DAY 1", hall.ofGrower(0, 4), 0);

        says("Then: (1) CROP by CROP: SUM is LIGHT (0 to 9; 5 at first), and the LAMPS of its GROWER more;");
        Bloomclock crops = new Bloomclock();
        is("LIGHT 5 at first", crops.lampsFor(0, 12), 0);
        is("LIGHT 5 at first", crops.lampsFor(0, 11), 1);
        crops.grower();
        crops.grower();
        crops.lamps(1, 2);
        crops.plant(0, 0, 1);
        crops.plant(1, 2, 1);
        crops.plant(1, 0, 1);
        crops.pass(3, 4);
        is("LIGHT alone", crops.ofCrop(0, 3), 12);
        is("and LAMPS", crops.ofCrop(1, 3), 18);
        is("of each CROP", crops.ofCrop(2, 3), 18);
        crops.pass(1, 0);
        crops.pass(1, 9);
        is("0 and 9", crops.ofCrop(0, 3), 12 + 9);
        refuses("LIGHT 10", crops, WRONG, () -> crops.pass(1, 10));

        says("AGE is 1 more, if it was READY ahead of that; it is READY, if SUM is no less than its CULTIVAR asks.");
        crops.pass(3, 8);
        are("12 + 9 + 24", what -> crops.ofCrop(0, what), 0, 0, 1, 45, 0, 0);
        are("18 + 2 + 11 + 30", what -> crops.ofCrop(2, what), 1, 0, 1, 61, 1, 0);
        crops.pass(2, 8);
        are("61", what -> crops.ofCrop(0, what), 0, 0, 1, 61, 1, 0);
        are("READY ahead of that", what -> crops.ofCrop(2, what), 1, 0, 1, 81, 1, 2);

        says("(2) Each GROWER pays 1 COIN for each of its LAMPS (to nobody).");
        is("without LAMPS", crops.ofGrower(0, 0), 100);
        is("10 HOURS of 2 LAMPS", crops.ofGrower(1, 0), 80);
        is("to nobody", crops.many(9), 0);
    }

    private static void lifeAndTheRail() {
        says("(3) LIFE of each LOT with STEMS is less by 1, 3, 6 in COLD, HALL, DOCK, that of TROLLEYS on the rail "
                + "by 3; 0 at least");
        Bloomclock hall = withLot(9);
        for (int i = 0; i < 3; i++) {
            hall.move(hall.cut(0, 4), i);
        }
        hall.buyer(0);
        hall.speed(1);
        for (int i = 0; i < 9; i++) {
            hall.presell(0, 0, 1, 1);
        }
        for (int i = 1; i <= 8; i++) {
            hall.pass(1, 0);
            is("COLD", hall.ofLot(1, 4), 90 - i);
            is("HALL", hall.ofLot(2, 4), 90 - 3 * i);
            is("DOCK", hall.ofLot(3, 4), 90 - 6 * i);
            is("the rail", hall.many(15), 90 - 3 * i);
        }
        hall.pass(7, 0);
        is("DOCK", hall.ofLot(3, 4), 0);
        hall.pass(16, 0);
        is("COLD", hall.ofLot(1, 4), 59);
        is("HALL", hall.ofLot(2, 4), 0);
        is("0 at least", hall.ofLot(3, 4), 0);
        hall.presell(2, 0, 1, 1);
        hall.presell(2, 0, 1, 1);
        hall.pass(1, 0);
        is("0 at least on the rail", hall.many(15), 0);
        Bloomclock first = withLot(9);
        first.buyer(0);
        first.buyer(0);
        first.leave(1, 30);
        first.presell(0, 0, 1, 1);
        first.presell(0, 1, 1, 1);
        first.presell(0, 1, 1, 1);
        first.pass(1, 0);
        is("that of the first one, too", first.many(15), 87);

        says("(LOTS without STEMS and CLEARED ones stay).");
        Bloomclock gone = withLot(2);
        gone.clear(gone.cut(0, 3), false);
        gone.buyer(0);
        gone.presell(0, 0, 2, 1);
        gone.pass(5, 0);
        is("without STEMS", gone.ofLot(0, 4), 90);
        is("CLEARED", gone.ofLot(1, 4), 90);

        says("(4) The rail, section 5.");
        Bloomclock rail = withLot(9);
        rail.buyer(0);
        rail.leave(0, 13);
        for (int i = 0; i < 5; i++) {
            rail.presell(0, 0, 1, 1);
        }
        is("2 in HOUR 13, as HOUR is 1 more by then", rail.pass(1, 0), 2);
        is("in the STOCK", rail.ofBuyer(0, 4), 2);
        is("2 and 1 in two HOURS more", rail.pass(2, 0), 3);
        is("MISSED behind HOUR 13", rail.many(10), 3);
    }

    // ---- section 3

    private static void theRow() {
        says("3 THE ROW. To BRING a HELD LOT: it comes behind the ROW,");
        Bloomclock hall = withLot(100);
        hall.cut(0, 40);
        hall.cut(0, 30);
        is("the first one", hall.bring(1, 80, 7), 1);
        is("behind it", hall.bring(0, 110, 99), 2);
        are("the ROW", hall::row, 1, 0, -1);
        refuses("one in the ROW", hall, REFUSED, () -> hall.bring(1, 80, 7));

        says("with a LIFE that is TOLD (0 to 110), and a MINIMUM (1 to 99).");
        are("TOLD and MINIMUM", i -> hall.ofLot(1, 8 + i), 80, 7);
        are("the greatest ones", i -> hall.ofLot(0, 8 + i), 110, 99);
        refuses("TOLD 111", hall, WRONG, () -> hall.bring(2, 111, 1));
        refuses("TOLD -1", hall, WRONG, () -> hall.bring(2, -1, 1));
        refuses("MINIMUM 0", hall, WRONG, () -> hall.bring(2, 0, 0));
        refuses("MINIMUM 100", hall, WRONG, () -> hall.bring(2, 0, 100));
        is("the least ones", hall.bring(2, 0, 1), 3);
        are("TOLD and MINIMUM", i -> hall.ofLot(2, 8 + i), 0, 1);

        says("Its GROWER may BRING no more STEMS of a CULTIVAR on a DAY than the QUOTA of that (500 at first), all "
                + "LOTS of that DAY together");
        are("500 at first", i -> hall.many(12 + i), 500, 500, 500);
        is("BROUGHT", hall.ofGrower(0, 4), 170);
        hall.cut(0, 10);
        hall.cut(0, 1);
        hall.vote(0, 180);
        does("180 together", () -> hall.bring(3, 1, 1));
        refuses("181 together", hall, REFUSED, () -> hall.bring(4, 1, 1));
        hall.pass(12, 0);
        does("on the next DAY", () -> hall.bring(4, 1, 1));

        says("(one that is BROUGHT again counts again).");
        Bloomclock again = withLot(100);
        for (int i = 1; i <= 5; i++) {
            does("BROUGHT " + i + " times", () -> again.bring(0, 1, 1));
            is("counts again", again.ofGrower(0, 4), 100 * i);
            again.clock();
        }
        refuses("600 of 500", again, REFUSED, () -> again.bring(0, 1, 1));

        says("SHOWN is the smaller one of what is TOLD and its LIFE as it is sold.");
        is("TOLD 60, LIFE 90", mostShown(60, 0), 60);
        is("TOLD 110, LIFE 90", mostShown(110, 0), 90);
        is("TOLD 90, LIFE 84 as it is sold", mostShown(90, 2), 84);
        is("TOLD 0", mostShown(0, 0), 0);
    }

    /** The greatest number that an ORDER may ask to be SHOWN of a LOT of LIFE 90 that is told so; -1, if none fits. */
    private static int mostShown(int told, int hoursInTheRow) {
        for (int shown = 110; shown >= 0; shown--) {
            Bloomclock hall = withLot(1);
            hall.buyer(0);
            hall.order(0, 0, 2, shown, 0, 9, 1);
            hall.bring(0, told, 1);
            if (hoursInTheRow > 0) {
                hall.pass(hoursInTheRow, 0);
            }
            if (hall.clock() > 0) {
                return shown;
            }
        }
        return -1;
    }

    private static void inspections() {
        says("To INSPECT a LOT in the ROW: if more is TOLD than its LIFE, the MARK of its GROWER is 10 less (0 at "
                + "least), and what is TOLD is that LIFE from then on;");
        Bloomclock hall = withLot(5);
        refuses("one that is HELD", hall, REFUSED, () -> hall.inspect(0));
        hall.grower();
        hall.bring(0, 91, 1);
        is("10 less", hall.inspect(0), 40);
        is("of its GROWER", hall.ofGrower(0, 2), 40);
        is("not of the other one", hall.ofGrower(1, 2), 50);
        is("what is TOLD", hall.ofLot(0, 8), 90);
        hall.pass(5, 0);
        is("from then on", hall.ofLot(0, 8), 90);
        is("its LIFE is less", hall.inspect(0), 30);
        is("what is TOLD", hall.ofLot(0, 8), 75);
        for (int i = 0; i < 4; i++) {
            hall.pass(1, 0);
            is("0 at least", hall.inspect(0), Math.max(0, 20 - 10 * i));
        }

        says("otherwise the MARK is 2 more (100 at most).");
        for (int i = 1; i <= 51; i++) {
            is("100 at most", hall.inspect(0), Math.min(100, 2 * i));
        }
        is("what is TOLD stays", hall.ofLot(0, 8), 63);
        Bloomclock less = withLot(5);
        less.bring(0, 0, 1);
        is("less is TOLD than its LIFE", less.inspect(0), 52);
        is("what is TOLD stays", less.ofLot(0, 8), 0);
    }

    private static void buyersAndOrders() {
        says("BUYERS: at most 4, numbered from 0,");
        Bloomclock hall = new Bloomclock();
        int[] latencies = {0, 9, 4, 1};
        for (int i = 0; i < 4; i++) {
            is("its number", hall.buyer(latencies[i]), i);
        }
        refuses("a fifth one", hall, REFUSED, () -> hall.buyer(0));

        says("each with COINS (2000 at first), LATENCY (0 to 9), EVENED by so much (0 to 9; 0 at first), a LEAVING "
                + "HOUR (NONE at first), STOCK of each CULTIVAR (0), and BUCKETS (0).");
        for (int i = 0; i < 4; i++) {
            int buyer = i;
            are("COINS to BUCKETS", what -> hall.ofBuyer(buyer, what), 2000, latencies[i], 0, -1, 0, 0, 0, 0);
        }
        refuses("LATENCY 10", hall, WRONG, () -> hall.buyer(10));
        does("EVENED by 9", () -> hall.even(0, 9));
        refuses("EVENED by 10", hall, WRONG, () -> hall.even(0, 10));

        says("ORDERS: at most 12, numbered from 0:");
        for (int i = 0; i < 12; i++) {
            is("its number", hall.order(i % 4, 0, 0, 0, 0, 1, 1 + i), i);
        }
        refuses("a 13th one", hall, REFUSED, () -> hall.order(0, 0, 0, 0, 0, 1, 1));

        says("a BUYER wants so many STEMS of a CULTIVAR,");
        is("so many STEMS", hall.wants(11), 12);
        is("another CULTIVAR", tookOf(1, 2, 0, 0), 0);
        is("that CULTIVAR", tookOf(0, 2, 0, 0), 5);

        says("of a GRADE or better (a smaller one),");
        is("its GRADE", tookOf(0, 1, 0, 0), 5);
        is("a better one is wanted", tookOf(0, 0, 0, 0), 0);
        is("it is better", tookOf(0, 2, 0, 0), 5);

        says("with so much SHOWN or more,");
        is("so much", tookOf(0, 2, 60, 0), 5);
        is("more is wanted", tookOf(0, 2, 61, 0), 0);
        is("more is SHOWN", tookOf(0, 2, 59, 0), 5);

        says("of a GROWER with so much of a MARK or more,");
        is("so much, as it is by then", tookOf(0, 2, 0, 52), 5);
        is("more is wanted", tookOf(0, 2, 0, 53), 0);
        is("it has more", tookOf(0, 2, 0, 51), 5);

        says("for a LIMIT (1 to 99) each at most.");
        Bloomclock limits = withLot(9);
        limits.buyer(0);
        order(limits, 0, 99, 1);
        order(limits, 0, 1, 2);
        refuses("a LIMIT of 0", limits, WRONG, () -> limits.order(0, 0, 2, 0, 0, 0, 1));
        refuses("a LIMIT of 100", limits, WRONG, () -> limits.order(0, 0, 2, 0, 0, 100, 1));
        limits.bring(0, 90, 1);
        is("both take", limits.clock(), 3);
        is("for 99", limits.sale(1, 3), 99);
        is("for 1", limits.sale(0, 3), 1);

        says("What it still wants is less by what it takes.");
        Bloomclock wants = withLot(9);
        wants.buyer(0);
        order(wants, 0, 5, 12);
        wants.bring(0, 90, 1);
        wants.clock();
        is("12 less 9", wants.wants(0), 3);
    }

    /** What an ORDER takes of a LOT of GRADE 1, LIFE 60, of a GROWER with a MARK of 52. */
    private static int tookOf(int cultivar, int grade, int shown, int mark) {
        Bloomclock hall = cutAt(0, 15);
        hall.buyer(0);
        hall.order(0, cultivar, grade, shown, mark, 10, 5);
        hall.bring(0, 60, 1);
        hall.inspect(0);
        return hall.clock();
    }

    // ---- section 4

    private static void theClock() {
        says("4 THE CLOCK sells the first LOT of the ROW: it starts at a PRICE of 99, and falls by 1 each TICK.");
        Bloomclock hall = withLot(9);
        hall.cut(0, 5);
        hall.buyer(0);
        order(hall, 0, 99, 3);
        order(hall, 0, 98, 1);
        hall.bring(1, 90, 1);
        hall.bring(0, 90, 1);
        is("of the first one", hall.clock(), 4);
        is("the first one", hall.sale(0, 0), 1);
        is("at the start", hall.sale(1, 3), 99);
        is("a TICK later", hall.sale(0, 3), 98);
        is("the next one is first", hall.row(0), 0);

        says("An ORDER that fits, and still wants some, of a BUYER that is not OUT, would press at the TICK (from 0) "
                + "at which the PRICE is its LIMIT;");
        for (int limit = 1; limit <= 99; limit++) {
            is("a LIMIT of " + limit, priceOf(0, 0, limit), limit);
        }
        is("those that want none any more", hall.clock(), 0);
        is("one that does not fit", tookOf(1, 0, 0, 0), 0);

        says("its STAMP is that TICK, and what LATENCY is more than EVENED (0, if it is not).");
        int[][] late = {{0, 0, 0}, {9, 0, 9}, {5, 2, 3}, {5, 5, 0}, {5, 6, 0}, {0, 9, 0}, {9, 8, 1}};
        for (int[] each : late) {
            is("LATENCY " + each[0] + ", EVENED by " + each[1], priceOf(each[0], each[1], 60), 60 - each[2]);
        }
    }

    /** The PRICE at which a BUYER of that LATENCY, EVENED by so much, takes at that LIMIT. */
    private static int priceOf(int latency, int evened, int limit) {
        Bloomclock hall = withLot(5);
        hall.buyer(latency);
        hall.even(0, evened);
        order(hall, 0, limit, 3);
        hall.bring(0, 90, 1);
        hall.clock();
        return hall.sale(0, 3);
    }

    private static void whoTakes() {
        says("The smallest STAMP takes it, of several that of the smallest BUYER, then the smallest ORDER:");
        Bloomclock hall = withLot(50);
        hall.buyer(4);
        hall.buyer(0);
        order(hall, 1, 50, 1);
        order(hall, 0, 54, 2);
        order(hall, 0, 54, 3);
        order(hall, 0, 60, 4);
        order(hall, 1, 57, 5);
        order(hall, 1, 50, 6);
        hall.bring(0, 90, 1);
        is("all take", hall.clock(), 21);
        int[] stems = {5, 4, 2, 3, 1, 6};
        int[] price = {57, 56, 50, 50, 50, 50};
        for (int i = 0; i < 6; i++) {
            is("STEMS of the SALE " + i, hall.sale(5 - i, 2), stems[i]);
            is("its PRICE", hall.sale(5 - i, 3), price[i]);
        }

        says("at the PRICE of that TICK (as it is by then; if that is below the MINIMUM, nobody takes it).");
        for (int minimum = 54; minimum <= 58; minimum++) {
            Bloomclock late = withLot(9);
            late.buyer(4);
            late.buyer(0);
            order(late, 0, 60, 2);
            order(late, 1, 55, 3);
            late.bring(0, 90, minimum);
            int due = minimum <= 55 ? 5 : minimum == 56 ? 2 : 0;
            is("a PRICE of 56 and of 55, a MINIMUM of " + minimum, late.clock(), due);
        }
        Bloomclock none = withLot(9);
        none.buyer(1);
        order(none, 0, 1, 2);
        none.bring(0, 90, 1);
        is("a PRICE of 0 is below each MINIMUM", none.clock(), 0);
    }

    private static void howManyItTakes() {
        says("It takes as many STEMS as it still wants, as there are, and as its BUYER can pay with its COINS at "
                + "that PRICE;");
        is("as it wants", taken(30, 20, 50), 20);
        is("as there are", taken(30, 40, 50), 30);
        is("as its COINS pay", taken(60, 60, 50), 40);
        is("as its COINS pay, rounded down", taken(60, 60, 51), 39);
        for (int limit = 26; limit <= 27; limit++) {
            Bloomclock two = withLot(80);
            two.buyer(0);
            order(two, 0, 48, 41);
            order(two, 0, limit, 30);
            two.bring(0, 90, 1);
            is("2000 less 1968, less 6 of DEPOSIT: 26 COINS", two.clock(), limit == 26 ? 42 : 41);
        }

        says("if that is none, the BUYER is OUT until the clock is done with this LOT, and the clock starts anew "
                + "from the PRICE from which it started.");
        Bloomclock hall = withLot(60);
        hall.cut(0, 10);
        for (int i = 0; i < 3; i++) {
            hall.buyer(0);
        }
        hall.presell(0, 1, 20, 99);
        is("18 COINS", hall.ofBuyer(1, 0), 18);
        order(hall, 1, 90, 1);
        order(hall, 1, 18, 1);
        order(hall, 0, 89, 2);
        order(hall, 2, 17, 3);
        hall.bring(0, 90, 1);
        hall.bring(1, 90, 18);
        is("it is OUT with each of its ORDERS", hall.clock(), 5);
        is("behind it, from the same PRICE", hall.sale(1, 3), 89);
        is("and the last one", hall.sale(0, 3), 17);
        is("for the next LOT it is OUT again", hall.clock(), 0);
        is("it wants as many as before", hall.wants(0) + hall.wants(1), 2);
        Bloomclock next = grown();
        next.buyer(0);
        next.presell(next.cut(0, 20), 0, 20, 99);
        order(next, 0, 19, 1);
        next.order(0, 1, 2, 0, 0, 18, 1);
        next.bring(next.cut(0, 5), 1, 1);
        next.bring(next.cut(1, 5), 1, 1);
        is("OUT at 19", next.clock(), 0);
        is("not OUT any more, at 18", next.clock(), 1);
    }

    /** What an ORDER takes of so many STEMS, with 2000 COINS. */
    private static int taken(int stems, int wanted, int limit) {
        Bloomclock hall = withLot(stems);
        hall.buyer(0);
        order(hall, 0, limit, wanted);
        hall.bring(0, 90, 1);
        int sold = hall.clock();
        is("what is left", hall.ofLot(0, 2), stems - sold);
        return sold;
    }

    private static void theClockStartsAnew() {
        says("If STEMS are left behind a SALE, it starts anew, from 10 above its PRICE, 99 at most.");
        Bloomclock hall = withLot(9);
        hall.buyer(9);
        hall.buyer(0);
        order(hall, 0, 69, 1);
        order(hall, 1, 60, 2);
        order(hall, 0, 69, 3);
        hall.bring(0, 90, 1);
        is("a LIMIT 9 above the PRICE", hall.clock(), 6);
        are("the STEMS, the latest one first", i -> hall.sale(i, 2), 2, 3, 1);
        are("the PRICE", i -> hall.sale(i, 3), 60, 60, 60);
        Bloomclock high = withLot(9);
        high.buyer(0);
        order(high, 0, 95, 1);
        order(high, 0, 99, 1);
        order(high, 0, 99, 1);
        high.bring(0, 90, 1);
        is("99 at most", high.clock(), 3);
        are("the PRICE", i -> high.sale(i, 3), 95, 99, 99);
        Bloomclock out = withLot(3);
        out.buyer(0);
        order(out, 0, 40, 3);
        order(out, 0, 39, 3);
        out.bring(0, 90, 1);
        is("no STEMS are left", out.clock(), 3);
        is("it wants as many", out.wants(1), 3);

        says("As nobody takes, what is left is HELD again (not in the ROW any more).");
        hall.bring(0, 90, 1);
        is("nobody takes", hall.clock(), 0);
        is("HELD", hall.ofLot(0, 7), 0);
        is("what is left", hall.ofLot(0, 2), 3);
        is("not in the ROW", hall.many(6), 0);
        is("no first one", hall.row(0), -1);
    }

    private static void aSale() {
        says("A SALE: the BUYER pays PRICE times STEMS: a twentieth of it is the FEE for the HALL; the GROWER has "
                + "the rest.");
        Bloomclock hall = withLot(50);
        hall.buyer(0);
        order(hall, 0, 33, 30);
        hall.bring(0, 90, 1);
        hall.clock();
        is("990 and 2 DEPOSITS", hall.ofBuyer(0, 0), 2000 - 990 - 4);
        is("a FEE of 49", hall.many(9), 49 + 4);
        is("the rest", hall.ofGrower(0, 0), 100 + 941);

        says("The BUYER also has as many BUCKETS of the LOT as the STEMS of the SALE need (those that there are at "
                + "most), and pays 2 of DEPOSIT for each of them to the HALL (also below 0).");
        is("2 of 3", hall.ofBuyer(0, 7), 2);
        is("1 is left", hall.ofLot(0, 5), 1);
        hall.presell(0, 0, 1, 1);
        is("the last one", hall.ofBuyer(0, 7), 3);
        hall.presell(0, 0, 19, 1);
        is("those that there are", hall.ofBuyer(0, 7), 3);
        is("no DEPOSIT without BUCKETS", hall.ofBuyer(0, 0), 1006 - 1 - 2 - 19);
        Bloomclock below = withLot(40);
        below.buyer(0);
        below.presell(0, 0, 40, 50);
        is("below 0", below.ofBuyer(0, 0), -4);
        is("to the HALL", below.many(9), 100 + 4);

        Bloomclock three = withLot(40);
        three.buyer(0);
        for (int i = 0; i < 3; i++) {
            order(three, 0, 99 - i, 1);
        }
        order(three, 0, 74, 37);
        three.bring(0, 90, 1);
        is("2 BUCKETS for the first two: 2000 less 294, less 4 pay 23 for 74", three.clock(), 3 + 23);

        says("The STEMS are a TROLLEY, behind all others, with the LIFE of the LOT.");
        Bloomclock rail = withLot(9);
        rail.buyer(0);
        rail.buyer(0);
        rail.speed(1);
        rail.presell(0, 1, 4, 1);
        is("a TROLLEY", rail.many(7), 1);
        is("with the LIFE", rail.many(15), 90);
        rail.presell(0, 0, 3, 1);
        rail.pass(1, 0);
        is("the first one is ahead", rail.ofBuyer(1, 4), 4);
        is("the other one behind", rail.ofBuyer(0, 4), 0);
        rail.presell(0, 1, 1, 1);
        is("each has its own LIFE", rail.many(15), 87);
    }

    private static void undo() {
        says("To UNDO the latest SALE (that was not UNDONE): in the HOUR in which it was, as its LOT is not CLEARED, "
                + "and its BUYER has as many BUCKETS as it got by it:");
        Bloomclock hall = withLot(60);
        hall.buyer(0);
        hall.presell(0, 0, 1, 1);
        hall.presell(0, 0, 2, 1);
        is("the latest one", hall.undo(), 2);
        is("the latest one that was not UNDONE", hall.undo(), 1);
        refuses("none is left", hall, REFUSED, hall::undo);
        hall.presell(0, 0, 1, 1);
        hall.pass(1, 0);
        refuses("an HOUR later", hall, REFUSED, hall::undo);
        hall.presell(0, 0, 30, 1);
        hall.back(0, 2);
        refuses("1 BUCKET of 2", hall, REFUSED, hall::undo);
        hall.presell(hall.cut(0, 1), 0, 1, 1);
        does("1 of 1 more", hall::undo);
        refuses("1 of 2 again", hall, REFUSED, hall::undo);
        hall.presell(1, 0, 1, 1);
        hall.presell(0, 0, 1, 1);
        hall.clear(0, false);
        refuses("CLEARED", hall, REFUSED, hall::undo);

        says("all that is taken back (COINS, FEE, DEPOSIT, BUCKETS, what the ORDER wants, STEMS of the LOT, that is "
                + "HELD, if it was SOLD), and the TROLLEY is gone.");
        Bloomclock back = withLot(60);
        back.buyer(1);
        order(back, 0, 31, 60);
        back.bring(0, 90, 1);
        is("clock", back.clock(), 60);
        are("the LOT is SOLD", i -> back.ofLot(0, i), 0, 0, 0, 0, 90, 0, 1, 2, 90, 1);
        is("undo", back.undo(), 60);
        is("COINS of the BUYER", back.ofBuyer(0, 0), 2000);
        is("COINS of the GROWER", back.ofGrower(0, 0), 100);
        is("FEE and DEPOSIT", back.many(9), 0);
        is("BUCKETS of the BUYER", back.ofBuyer(0, 7), 0);
        is("what the ORDER wants", back.wants(0), 60);
        are("STEMS and BUCKETS of the LOT, that is HELD", i -> back.ofLot(0, i), 0, 0, 60, 0, 90, 3, 1, 0, 90, 1);
        is("no TROLLEY", back.many(7), 0);
        back.presell(0, 0, 1, 1);
        back.bring(0, 90, 1);
        back.undo();
        is("one that was not SOLD is where it was", back.ofLot(0, 7), 1);
        is("in the ROW", back.row(0), 0);
    }

    private static void sellingAhead() {
        says("To SELL ahead of the clock: a HELD LOT, to a BUYER, for a PRICE of 1 to 99,");
        Bloomclock hall = withLot(60);
        hall.buyer(0);
        hall.buyer(9);
        is("a PRICE of 99", hall.presell(0, 1, 2, 99), 198 - 9);
        is("a PRICE of 1", hall.presell(0, 1, 1, 1), 1);
        refuses("a PRICE of 0", hall, WRONG, () -> hall.presell(0, 1, 1, 0));
        refuses("a PRICE of 100", hall, WRONG, () -> hall.presell(0, 1, 1, 100));
        is("to that BUYER", hall.sale(0, 1), 1);
        is("not to the other one", hall.ofBuyer(0, 0), 2000);

        says("as if that were the SALE of an ORDER (none is less by it);");
        Bloomclock sold = withLot(60);
        sold.buyer(0);
        order(sold, 0, 20, 25);
        sold.presell(0, 0, 25, 20);
        is("it wants as many", sold.wants(0), 25);
        are("the LOT", i -> sold.ofLot(0, i), 0, 0, 35, 0, 90, 1, 1, 0, -1, -1);
        is("COINS of the BUYER", sold.ofBuyer(0, 0), 2000 - 500 - 4);
        is("its BUCKETS", sold.ofBuyer(0, 7), 2);
        is("FEE and DEPOSIT", sold.many(9), 25 + 4);
        is("COINS of the GROWER", sold.ofGrower(0, 0), 100 + 475);
        is("a TROLLEY", sold.many(7), 1);
        is("its LIFE", sold.many(15), 90);

        says("not more STEMS than there are, nor than its COINS pay.");
        refuses("36 of 35", sold, REFUSED, () -> sold.presell(0, 0, 36, 1));
        refuses("1505 of 1496 COINS", sold, REFUSED, () -> sold.presell(0, 0, 35, 43));
        does("1470 of 1496 COINS", () -> sold.presell(0, 0, 35, 42));
        sold.bring(sold.cut(0, 5), 1, 1);
        refuses("one in the ROW", sold, REFUSED, () -> sold.presell(1, 0, 1, 1));
    }

    // ---- section 5

    private static void theRail() {
        says("5 THE RAIL brings SPEED (1 to 9; 2 at first) TROLLEYS in an HOUR:");
        for (int speed = 1; speed <= 9; speed++) {
            Bloomclock full = withLot(30);
            full.buyer(0);
            for (int i = 0; i < 20; i++) {
                full.presell(0, 0, 1, 1);
            }
            is("2 at first", full.speed(speed), 2);
            is("in an HOUR", full.pass(1, 0), speed);
            is("in two HOURS", full.pass(2, 0), Math.min(20 - speed, 2 * speed));
        }
        Bloomclock hall = withLot(63);
        refuses("SPEED 0", hall, WRONG, () -> hall.speed(0));
        refuses("SPEED 10", hall, WRONG, () -> hall.speed(10));

        says("those of BUYERS with the smallest LEAVING HOUR first (NONE behind all others), of several as they "
                + "came.");
        int[] leaving = {-1, 9999, 16, 16};
        hall.speed(1);
        for (int i = 0; i < 4; i++) {
            hall.buyer(0);
            hall.leave(i, leaving[i]);
        }
        int[] buyers = {0, 1, 3, 2, 0, 3};
        for (int i = 0; i < 6; i++) {
            hall.presell(0, buyers[i], 1 << i, 1);
        }
        int[] due = {2, 3, 5, 1, 0, 4};
        int[] stock = new int[4];
        for (int i : due) {
            hall.pass(1, 0);
            stock[buyers[i]] += 1 << i;
            are("the STOCK of the BUYERS", buyer -> hall.ofBuyer(buyer, 4), stock);
        }
        Bloomclock two = withLot(9);
        two.buyer(0);
        two.buyer(0);
        two.speed(1);
        two.leave(0, 20);
        two.leave(1, 21);
        two.presell(0, 0, 2, 1);
        two.presell(0, 1, 3, 1);
        two.pass(1, 0);
        is("the smallest one came first", two.ofBuyer(0, 4), 2);
        is("not the other one", two.ofBuyer(1, 4), 0);

        says("One whose BUYER has a LEAVING HOUR (not NONE) below HOUR is MISSED, as it is brought: its STEMS are "
                + "WASTE; otherwise they come into the STOCK.");
        for (int hour = -1; hour <= 20; hour++) {
            Bloomclock one = withLot(30);
            one.buyer(0);
            one.leave(0, hour);
            one.presell(0, 0, 7, 1);
            one.pass(1, 0);
            boolean isMissed = hour >= 0 && hour < 13;
            is("WASTE, brought at 13, leaving at " + hour, one.many(10), isMissed ? 7 : 0);
            is("STOCK", one.ofBuyer(0, 4), isMissed ? 0 : 7);
        }
    }

    private static void bouquets() {
        says("To BIND bouquets from the STOCK of a BUYER: each takes 3 STEMS of the CULTIVAR 0, 2 of 1, 1 of 2;");
        Bloomclock hall = withStock(20, 4, 3);
        is("two", hall.bind(0, 2), 2);
        are("the STOCK", i -> hall.ofBuyer(0, 4 + i), 14, 0, 1);

        says("for each of 1 or 2 that lacks 2 more of 0 will do.");
        is("2 of 1 lack", hall.bind(0, 1), 1);
        are("7 of 0, 1 of 2", i -> hall.ofBuyer(0, 4 + i), 7, 0, 0);
        is("9 of 0 are needed", hall.bind(0, 9), 0);
        Bloomclock one = withStock(5, 1, 1);
        is("1 of 1 lacks", one.bind(0, 9), 1);
        are("5 of 0, 1 of 1, 1 of 2", i -> one.ofBuyer(0, 4 + i), 0, 0, 0);
        Bloomclock two = withStock(5, 2, 0);
        is("1 of 2 lacks", two.bind(0, 9), 1);
        are("5 of 0, 2 of 1", i -> two.ofBuyer(0, 4 + i), 0, 0, 0);
        is("the others don't stand for 0", withStock(2, 9, 9).bind(0, 9), 0);
    }

    /** A BUYER 0 with that STOCK. */
    private static Bloomclock withStock(int... stock) {
        Bloomclock hall = grown();
        hall.buyer(0);
        hall.speed(9);
        for (int cultivar = 0; cultivar < stock.length; cultivar++) {
            if (stock[cultivar] > 0) {
                hall.presell(hall.cut(cultivar, stock[cultivar]), 0, stock[cultivar], 1);
            }
        }
        hall.pass(1, 0);
        return hall;
    }

    private static void bucketsClearingAndVotes() {
        says("BUCKETS that come BACK go into the POOL; the HALL gives back 2 for each.");
        Bloomclock hall = withLot(60);
        hall.buyer(0);
        hall.presell(0, 0, 60, 10);
        is("into the POOL", hall.back(0, 3), 60);
        is("none is left", hall.ofBuyer(0, 7), 0);
        is("2 for each", hall.ofBuyer(0, 0), 2000 - 600 - 6 + 6);
        is("from the HALL", hall.many(9), 30 + 6 - 6);

        says("To CLEAR a LOT that is HELD: its STEMS are WASTE, its BUCKETS come into the POOL (it has none of both "
                + "then); as they are GIVEN away, the MARK is 1 more (100 at most).");
        hall.cut(0, 45);
        is("the POOL", hall.many(8), 57);
        is("clear", hall.clear(1, false), 45);
        is("WASTE", hall.many(10), 45);
        is("the POOL", hall.many(8), 60);
        are("none of both", i -> hall.ofLot(1, i), 0, 0, 0, 0, 90, 0, 1, 3, -1, -1);
        is("the MARK stays", hall.ofGrower(0, 2), 50);
        hall.clear(hall.cut(0, 1), true);
        is("GIVEN away", hall.ofGrower(0, 2), 51);
        hall.bring(hall.cut(0, 1), 0, 1);
        refuses("one in the ROW", hall, REFUSED, () -> hall.clear(3, true));
        for (int i = 0; i < 25; i++) {
            hall.inspect(3);
        }
        hall.clear(hall.cut(0, 1), true);
        is("100 at most", hall.ofGrower(0, 2), 100);

        says("To VOTE for a QUOTA of a CULTIVAR: a GROWER says YES, if it BROUGHT no more STEMS of that CULTIVAR on "
                + "this DAY than that QUOTA;");
        Bloomclock votes = grown();
        votes.bring(votes.cut(0, 30), 1, 1);
        votes.bring(votes.cut(1, 40), 1, 1);
        is("29 for 30", votes.vote(0, 29), 0);
        is("30 for 30", votes.vote(0, 30), 1);
        is("39 for 40", votes.vote(1, 39), 0);
        is("40 for 40", votes.vote(1, 40), 1);
        is("0 for none", votes.vote(2, 0), 1);
        votes.pass(24, 0);
        is("on the next DAY", votes.vote(0, 0), 1);

        says("its weight is 1 and the STEMS that were SOLD of it ever (less what was UNDONE).");
        Bloomclock weights = grown();
        weights.grower();
        weights.buyer(0);
        weights.presell(weights.cut(0, 10), 0, 6, 1);
        weights.presell(weights.cut(1, 10), 0, 3, 1);
        is("1 + 9 and 1", weights.vote(0, 5), 11);
        weights.undo();
        is("1 + 6 and 1", weights.vote(0, 5), 8);
        weights.bring(1, 1, 1);
        is("the other one alone", weights.vote(1, 9), 1);

        says("With more weight for it than against it, it is the QUOTA from then on.");
        are("that of 0, not that of 1", i -> weights.many(12 + i), 5, 500, 500);
        Bloomclock even = withLot(10);
        even.grower();
        even.bring(0, 1, 1);
        is("1 for it, 1 against it", even.vote(0, 9), 1);
        is("the QUOTA stays", even.many(12), 500);
        is("2 for it", even.vote(0, 10), 2);
        is("from then on", even.many(12), 10);
        even.cut(0, 1);
        refuses("one more", even, REFUSED, () -> even.bring(1, 1, 1));
        Bloomclock three = withLot(10);
        three.grower();
        three.grower();
        three.plant(1, 0, 9);
        three.plant(2, 0, 9);
        three.pass(12, 5);
        for (int i = 1; i <= 2; i++) {
            three.bring(three.cut(i, 9), 1, 1);
        }
        three.buyer(0);
        three.presell(0, 0, 1, 1);
        is("2 for it, 1 and 1 against it", three.vote(0, 8), 2);
        is("the QUOTA stays", three.many(12), 500);
    }

    // ---- behind the sections

    private static void whatThrows() {
        says("A method that throws an exception changes nothing.");
        Bloomclock hall = withLot(30);
        refuses("no such one", hall, NO_SUCH, () -> hall.lamps(1, 1));
        refuses("a wrong number", hall, WRONG, () -> hall.pass(49, 3));
        refuses("what can not be", hall, REFUSED, () -> hall.cut(0, 171));
        hall.pass(1, 4);
        refuses("a wrong number: the LIGHT stays", hall, WRONG, () -> hall.pass(0, 9));
        is("LIGHT 4", hall.lampsFor(0, 15), 0);

        says("If several exceptions apply, the one that is named first is thrown.");
        refuses("no such one is first", hall, NO_SUCH, () -> hall.cut(1, 0));
        refuses("a wrong number is first", hall, WRONG, () -> hall.cut(0, 0));
        Bloomclock full = new Bloomclock();
        for (int i = 0; i < 4; i++) {
            full.buyer(0);
        }
        refuses("a wrong number is ahead of a full hall", full, WRONG, () -> full.buyer(10));
        refuses("no such one, a wrong number", full, NO_SUCH, () -> full.presell(0, 4, 0, 0));
    }

    /** The headings that stand ahead of calls, as the source has them. */
    private static void headings() throws IOException {
        isAhead("Ahead of the calls `grower`, `lamps`, `plant`, `cut`, `move`, `pass` the interface says: "
                + "---- growing.");
        isAhead("Ahead of the calls `bring`, `inspect`, `buyer`, `even`, `leave`, `order`, `clock`, `presell`, "
                + "`undo`, `speed`, `bind`, `back`, `clear`, `vote` the interface says: ---- the hall.");
        isAhead("Ahead of the calls `ofCrop`, `ofLot`, `ofGrower`, `ofBuyer`, `wants`, `sale`, `row`, `many`, "
                + "`meanPrice` the interface says: ---- what is asked.");
        isAhead("Ahead of the calls `wouldFetch`, `bestMinimum`, `readyIn`, `lampsFor`, `digest` the interface "
                + "says: ---- what would be (nothing is changed).");
    }

    private static void isAhead(String sentence) throws IOException {
        says(sentence);
        String due = sentence.substring(sentence.indexOf("----"), sentence.length() - 1);
        List<String> names = Arrays.asList(sentence.split("`"));
        String heading = "";
        int found = 0;
        for (String line : Files.readAllLines(SOURCE)) {
            String code = line.trim();
            heading = code.startsWith("// ----") ? code.substring(3) : heading;
            String name = code.replaceAll("^public \\w+ (\\w+)\\(.*$", "$1");
            if (code.startsWith("public ") && names.contains(name)) {
                found++;
                is("the heading ahead of " + name, heading, due);
            }
        }
        is("calls of " + due, found, names.size() / 2);
    }

    private static void theTerms() throws IOException {
        whatItsCallsDo();
        numbersAndNone();
        growers();
        cultivarsAndCrops();
        lots();
        placesStatesAndBuckets();
        anHour();
        lifeAndTheRail();
        theRow();
        inspections();
        buyersAndOrders();
        theClock();
        whoTakes();
        howManyItTakes();
        theClockStartsAnew();
        aSale();
        undo();
        sellingAhead();
        theRail();
        bouquets();
        bucketsClearingAndVotes();
        whatThrows();
        headings();
    }

    public static void main(String[] args) throws IOException {
        opens();
        theHead();
        theFace();
        theTerms();
        DocumentPromises.all();
        closes();
        ends();
    }
}
