import java.lang.reflect.InvocationTargetException;
import java.lang.reflect.Method;
import java.util.Random;

/** Runs of 512 calls, drawn from fixed seeds, on Bloomclock and on PlainHall: both have to answer alike. */
public final class RandomRunsTest {
    private static final int RUNS = 150;
    private static final int CALLS = 512;
    /** Names of calls: one that stands here more often is drawn more often. */
    private static final String[] DRAWN = {
        "grower", "lamps", "plant", "plant", "cut", "cut", "cut", "move", "pass", "pass",
        "bring", "bring", "bring", "bring", "bring", "inspect", "inspect", "buyer", "even", "leave", "leave",
        "order", "clock", "clock", "clock", "clock", "presell", "undo", "undo", "speed", "bind", "bind", "back", "back", "clear", "vote", "ofCrop", "ofLot", "ofGrower",
        "ofBuyer", "wants", "sale", "sale", "row", "many", "meanPrice", "wouldFetch", "bestMinimum",
        "readyIn", "lampsFor"
    };

    private static final String[] DRAWN_FIRST = {"grower", "buyer", "plant", "order", "pass"};

    private static Method named(Class<?> type, String name) {
        for (Method method : type.getDeclaredMethods()) {
            if (method.getName().equals(name)) {
                method.setAccessible(true);
                return method;
            }
        }
        throw new IllegalStateException("no method " + name);
    }

    private static String answer(Object on, String name, Object[] arguments) throws IllegalAccessException {
        try {
            return String.valueOf(named(on.getClass(), name).invoke(on, arguments));
        } catch (InvocationTargetException e) {
            return "throws." + e.getCause().getClass().getSimpleName();
        }
    }

    /** The greatest argument that is drawn; of numbers of things: so that there mostly is such a thing. */
    private static int mostOf(String name, int place, boolean isSmall, PlainHall hall) {
        switch (name + place) {
            case "lamps0": case "plant0": case "ofGrower0":
                return Math.max(0, hall.many(1) - 1);
            case "even0": case "leave0": case "order0": case "presell1": case "bind0": case "back0":
            case "ofBuyer0":
                return Math.max(0, hall.many(4) - 1);
            case "cut0": case "ofCrop0": case "readyIn0":
                return Math.max(0, hall.many(2) - 1);
            case "move0": case "bring0": case "inspect0": case "clear0": case "ofLot0": case "wouldFetch0":
            case "bestMinimum0": case "presell0":
                return Math.max(0, hall.many(3) - 1);
            case "wants0":
                return Math.max(0, hall.many(5) - 1);
            case "lamps1":
                return 3;
            case "plant1": case "vote0": case "lampsFor0": case "order1": case "order2": case "move1":
                return 2;
            case "plant2":
                return 200;
            case "cut1":
                return isSmall ? 45 : 110;
            case "pass0":
                return isSmall ? 2 : 20;
            case "bring1":
                return 110;
            case "order3":
                return isSmall ? 10 : 110;
            case "bring2":
                return isSmall ? 10 : 99;
            case "order4":
                return isSmall ? 20 : 100;
            case "order5":
                return isSmall ? 30 : 99;
            case "order6":
                return isSmall ? 40 : 500;
            case "leave1":
                return Math.min(9999, hall.many(0) + 4);
            case "presell2":
                return isSmall ? 5 : 60;
            case "presell3":
                return isSmall ? 5 : 99;
            case "bind1":
                return 20;
            case "back1":
                return 3;
            case "vote1":
                return isSmall ? 999 : 100;
            case "sale0":
                return isSmall ? 4 : 20;
            case "row0":
                return 5;
            case "many0":
                return 15;
            case "lampsFor1":
                return 60;
            default:
                return 9;
        }
    }

    private static boolean isOfLot(String name) {
        return name.equals("bring") || name.equals("inspect") || name.equals("presell") || name.equals("clear");
    }

    /** A lot of that state, if some draws find one. */
    private static int lotThatIs(int state, Random random, PlainHall hall) {
        int lots = hall.many(3);
        for (int i = 0; i < 8 && lots > 0; i++) {
            int lot = random.nextInt(lots);
            if (hall.ofLot(lot, 7) == state) {
                return lot;
            }
        }
        return 0;
    }

    private static Object[] arguments(Random random, String name, PlainHall hall) {
        Class<?>[] types = named(Bloomclock.class, name).getParameterTypes();
        Object[] drawn = new Object[types.length];
        for (int i = 0; i < types.length; i++) {
            if (types[i] == boolean.class) {
                drawn[i] = random.nextBoolean();
            } else if (i == 0 && isOfLot(name) && random.nextInt(4) > 0) {
                drawn[i] = lotThatIs(name.equals("inspect") ? 1 : 0, random, hall);
            } else if (name.equals("order") && i == 2 && random.nextInt(3) > 0) {
                drawn[i] = 2;
            } else if (random.nextInt(60) == 0) {
                int[] wild = {-1, -2, 0, 1000, 10000, Integer.MAX_VALUE, Integer.MIN_VALUE};
                drawn[i] = wild[random.nextInt(wild.length)];
            } else {
                int most = mostOf(name, i, random.nextInt(3) > 0, hall);
                drawn[i] = random.nextInt(25) == 0 ? most + 1 - random.nextInt(2) : random.nextInt(most + 1);
            }
        }
        return drawn;
    }

    private static boolean runsAlike(int seed, int[] answered) throws IllegalAccessException {
        Random random = new Random(seed);
        Bloomclock clock = new Bloomclock();
        PlainHall plain = new PlainHall();
        StringBuilder told = new StringBuilder();
        for (int i = 0; i < CALLS; i++) {
            boolean isDigest = i % 16 == 15;
            String[] from = i < 30 && random.nextInt(4) > 0 ? DRAWN_FIRST : DRAWN;
            String name = isDigest ? "digest" : from[random.nextInt(from.length)];
            Object[] arguments = arguments(random, name, plain);
            String got = answer(clock, name, arguments);
            String due = answer(plain, name, arguments);
            told.append(name).append(java.util.Arrays.toString(arguments)).append(" -> ").append(got).append('\n');
            if (!got.equals(due)) {
                System.out.println(told + "seed " + seed + ": due is " + due);
                return false;
            }
            answered[0] += got.startsWith("throws") ? 0 : 1;
            answered[1] += name.equals("clock") && got.length() < 4 && !got.equals("0") ? 1 : 0;
            answered[2] += name.equals("undo") && got.length() < 4 ? 1 : 0;
        }
        return true;
    }

    public static void main(String[] args) throws IllegalAccessException {
        int runs = args.length > 0 ? Integer.parseInt(args[0]) : RUNS;
        int[] answered = new int[3];
        for (int seed = 0; seed < runs; seed++) {
            if (!runsAlike(seed, answered)) {
                System.exit(1);
            }
        }
        System.out.println(runs + " random runs are alike: " + answered[0] + " calls answered, "
                + answered[1] + " clocks sold, " + answered[2] + " sales undone");
    }
}
