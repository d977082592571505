/** What the tests of Bloomclock have in common: how they check an answer, and how a call that is refused. */
abstract class Checks {
    static final Class<?> NO_SUCH = IndexOutOfBoundsException.class;
    static final Class<?> WRONG = IllegalArgumentException.class;
    static final Class<?> REFUSED = IllegalStateException.class;

    interface Call {
        Object made();
    }

    private static int checks;
    private static int failures;

    static void is(String what, Object got, Object due) {
        checks++;
        if (!got.equals(due)) {
            failures++;
            System.out.println(what + ": answered " + got + ", due is " + due);
        }
    }

    static int checksMade() {
        return checks;
    }

    /** Checks that a call throws just that class, and that the hall stays as it was. */
    static void refuses(String what, Bloomclock hall, Class<?> due, Call call) {
        long before = hall.digest();
        double mean = hall.meanPrice();
        try {
            is(what, call.made(), "throws " + due.getSimpleName());
        } catch (RuntimeException e) {
            is(what, e.getClass().getSimpleName(), due.getSimpleName());
            is(what + " is thrown by the class itself", e.getStackTrace()[0].getClassName().startsWith("Bloomclock"),
                    true);
        }
        is(what + " changes nothing", hall.digest(), before);
        is(what + " leaves the mean price", hall.meanPrice(), mean);
    }

    /** What a call answers, or what it throws, in words. */
    static String answer(Call call) {
        try {
            return String.valueOf(call.made());
        } catch (RuntimeException e) {
            return "throws." + e.getClass().getSimpleName();
        }
    }

    /** A hall with one grower and crops of 200 plants of each cultivar, all READY, the last one at its hour. */
    static Bloomclock grown() {
        Bloomclock hall = new Bloomclock();
        hall.grower();
        hall.plant(0, 0, 200);
        hall.plant(0, 1, 200);
        hall.plant(0, 2, 200);
        hall.pass(24, 5);
        return hall;
    }

    /** A hall at HOUR 12 with a LOT 0 of so many fresh stems of the cultivar 0 (LIFE 90). */
    static Bloomclock withLot(int stems) {
        Bloomclock hall = new Bloomclock();
        hall.grower();
        hall.plant(0, 0, 200);
        hall.pass(12, 5);
        hall.cut(0, stems);
        return hall;
    }

    /** An ORDER of the cultivar 0 that fits every LOT of it. */
    static void order(Bloomclock hall, int buyer, int limit, int stems) {
        hall.order(buyer, 0, 2, 0, 0, limit, stems);
    }

    /** Tells how many checks there were, and ends with exit code 1, if one of them failed. */
    static void ends() {
        System.out.println(checks + " checks, " + failures + " failed");
        if (failures > 0) {
            System.exit(1);
        }
    }
}
