import java.util.ArrayList;
import java.util.Comparator;
import java.util.List;

/**
 * The document once more, as slow and literal as it can be: the clock falls tick by tick, and what would
 * be is found by doing it on a copy. The random runs compare Bloomclock with it.
 */
final class PlainHall {
    private static final int[] ASKED = {60, 90, 120};
    private static final int[] FRESH = {90, 70, 110};
    private static final int[] LOST = {1, 3, 6};

    private int hour;
    private int light = 5;
    private int pool = 60;
    private int railSpeed = 2;
    private int hall;
    private int waste;
    private final int[] quota = {500, 500, 500};
    /** coins, lamps, mark, sold, brought of the cultivars 0 to 2. */
    private final List<int[]> growers = new ArrayList<>();
    /** grower, cultivar, plants, sum, ready, age. */
    private final List<int[]> crops = new ArrayList<>();
    /** grower, cultivar, stems, grade, life, buckets, place, state, told, minimum. */
    private final List<int[]> lots = new ArrayList<>();
    /** coins, latency, evened, leaving, stock of 0 to 2, buckets, bouquets. */
    private final List<int[]> buyers = new ArrayList<>();
    /** buyer, cultivar, grade, shown, mark, limit, wants. */
    private final List<int[]> orders = new ArrayList<>();
    private final List<Integer> row = new ArrayList<>();
    /** buyer, cultivar, stems, life, number of its sale. */
    private final List<int[]> rail = new ArrayList<>();
    /** lot, buyer, stems, price, hour, buckets, order, number; those that are kept, the latest one last. */
    private final List<int[]> kept = new ArrayList<>();
    /** stems, price, number: all that were not undone. */
    private final List<int[]> ever = new ArrayList<>();
    private int saleNumber;

    private static void copy(List<int[]> from, List<int[]> to) {
        for (int[] each : from) {
            to.add(each.clone());
        }
    }

    private PlainHall copied() {
        PlainHall c = new PlainHall();
        c.hour = hour;
        c.light = light;
        c.pool = pool;
        c.railSpeed = railSpeed;
        c.hall = hall;
        c.waste = waste;
        System.arraycopy(quota, 0, c.quota, 0, 3);
        copy(growers, c.growers);
        copy(crops, c.crops);
        copy(lots, c.lots);
        copy(buyers, c.buyers);
        copy(orders, c.orders);
        c.row.addAll(row);
        copy(rail, c.rail);
        copy(kept, c.kept);
        copy(ever, c.ever);
        c.saleNumber = saleNumber;
        return c;
    }

    private static void exists(int number, List<?> list) {
        if (number < 0 || number >= list.size()) {
            throw new IndexOutOfBoundsException();
        }
    }

    private static void between(int value, int low, int high) {
        if (value < low || value > high) {
            throw new IllegalArgumentException();
        }
    }

    private static void state(boolean isFine) {
        if (!isFine) {
            throw new IllegalStateException();
        }
    }

    private static int buckets(int stems) {
        int buckets = 0;
        while (buckets * 20 < stems) {
            buckets++;
        }
        return buckets;
    }

    public int grower() {
        state(growers.size() < 4);
        growers.add(new int[] {100, 0, 50, 0, 0, 0, 0});
        return growers.size() - 1;
    }

    public int lamps(int grower, int lamps) {
        exists(grower, growers);
        between(lamps, 0, 3);
        int before = growers.get(grower)[1];
        growers.get(grower)[1] = lamps;
        return before;
    }

    public int plant(int grower, int cultivar, int plants) {
        exists(grower, growers);
        between(cultivar, 0, 2);
        between(plants, 1, 200);
        state(crops.size() < 8);
        crops.add(new int[] {grower, cultivar, plants, 0, 0, 0});
        return crops.size() - 1;
    }

    public int cut(int crop, int stems) {
        exists(crop, crops);
        between(stems, 1, Integer.MAX_VALUE);
        int[] c = crops.get(crop);
        state(c[4] == 1 && c[2] >= stems && lots.size() < 16 && buckets(stems) <= pool);
        int grade = c[5] > 20 ? 2 : c[5] > 10 ? 1 : 0;
        int life = FRESH[c[1]];
        for (int i = 0; i < 2 * c[5] && life > 0; i++) {
            life--;
        }
        lots.add(new int[] {c[0], c[1], stems, grade, life, buckets(stems), 1, 0, -1, -1});
        c[2] -= stems;
        pool -= buckets(stems);
        return lots.size() - 1;
    }

    public int move(int lot, int place) {
        exists(lot, lots);
        between(place, 0, 2);
        int[] l = lots.get(lot);
        state(l[7] < 2);
        int before = l[6];
        l[6] = place;
        return before;
    }

    public int pass(int hours, int light) {
        between(hours, 1, 48);
        between(light, 0, 9);
        this.light = light;
        int brought = 0;
        for (int i = 0; i < hours; i++) {
            brought += anHour();
        }
        return brought;
    }

    private int anHour() {
        int dayBefore = hour / 24;
        hour++;
        for (int[] g : growers) {
            if (hour / 24 != dayBefore) {
                g[4] = 0;
                g[5] = 0;
                g[6] = 0;
            }
            g[0] -= g[1];
        }
        for (int[] c : crops) {
            c[3] += light;
            c[3] += growers.get(c[0])[1];
            if (c[4] == 1) {
                c[5]++;
            }
            if (c[3] >= ASKED[c[1]]) {
                c[4] = 1;
            }
        }
        for (int[] l : lots) {
            if (l[2] > 0) {
                l[4] = Math.max(0, l[4] - LOST[l[6]]);
            }
        }
        for (int[] t : rail) {
            t[3] = Math.max(0, t[3] - 3);
        }
        return theRail();
    }

    private int theRail() {
        List<int[]> sorted = new ArrayList<>(rail);
        sorted.sort(Comparator.comparingInt(t -> buyers.get(t[0])[3] < 0 ? 1000000 : buyers.get(t[0])[3]));
        List<int[]> brought = sorted.subList(0, Math.min(railSpeed, sorted.size()));
        for (int[] t : brought) {
            int[] b = buyers.get(t[0]);
            if (b[3] != -1 && b[3] < hour) {
                waste += t[2];
            } else {
                b[4 + t[1]] += t[2];
            }
            rail.remove(t);
        }
        return brought.size();
    }

    public int bring(int lot, int told, int minimum) {
        exists(lot, lots);
        between(told, 0, 110);
        between(minimum, 1, 99);
        int[] l = lots.get(lot);
        int[] g = growers.get(l[0]);
        state(l[7] == 0);
        state(g[4 + l[1]] + l[2] <= quota[l[1]]);
        g[4 + l[1]] += l[2];
        l[7] = 1;
        l[8] = told;
        l[9] = minimum;
        row.add(lot);
        return row.size();
    }

    public int inspect(int lot) {
        exists(lot, lots);
        int[] l = lots.get(lot);
        int[] g = growers.get(l[0]);
        state(row.contains(lot));
        if (l[8] > l[4]) {
            g[2] = Math.max(0, g[2] - 10);
            l[8] = l[4];
        } else {
            g[2] = Math.min(100, g[2] + 2);
        }
        return g[2];
    }

    public int buyer(int latency) {
        between(latency, 0, 9);
        state(buyers.size() < 4);
        buyers.add(new int[] {2000, latency, 0, -1, 0, 0, 0, 0, 0});
        return buyers.size() - 1;
    }

    public int even(int buyer, int much) {
        exists(buyer, buyers);
        between(much, 0, 9);
        int before = buyers.get(buyer)[2];
        buyers.get(buyer)[2] = much;
        return before;
    }

    public int leave(int buyer, int hour) {
        exists(buyer, buyers);
        between(hour, -1, 9999);
        int before = buyers.get(buyer)[3];
        buyers.get(buyer)[3] = hour;
        return before;
    }

    public int order(int buyer, int cultivar, int grade, int shown, int mark, int limit, int stems) {
        exists(buyer, buyers);
        between(cultivar, 0, 2);
        between(grade, 0, 2);
        between(shown, 0, 110);
        between(mark, 0, 100);
        between(limit, 1, 99);
        between(stems, 1, 500);
        state(orders.size() < 12);
        orders.add(new int[] {buyer, cultivar, grade, shown, mark, limit, stems});
        return orders.size() - 1;
    }

    public int clock() {
        state(!row.isEmpty());
        int lot = row.remove(0);
        int[] l = lots.get(lot);
        int before = l[2];
        boolean[] isOut = new boolean[4];
        int start = 99;
        while (true) {
            int price = theClockFalls(l, start, isOut);
            if (price == 0) {
                break;
            }
            if (price > 0) {
                start = Math.min(99, price + 10);
            }
        }
        if (l[7] == 1) {
            l[7] = 0;
        }
        return before - l[2];
    }

    /** The price of the sale; 0 if nobody takes, -1 if a buyer is out. */
    private int theClockFalls(int[] l, int start, boolean[] isOut) {
        for (int tick = 0; l[2] > 0; tick++) {
            int price = start - tick;
            if (price < l[9]) {
                return 0;
            }
            for (int b = 0; b < buyers.size(); b++) {
                for (int o = 0; o < orders.size(); o++) {
                    int[] order = orders.get(o);
                    if (order[0] != b || isOut[b] || !fits(order, l) || !presses(order, start, tick)) {
                        continue;
                    }
                    int stems = Math.min(order[6], l[2]);
                    while (stems > 0 && stems * price > buyers.get(b)[0]) {
                        stems--;
                    }
                    if (stems == 0) {
                        isOut[b] = true;
                        return -1;
                    }
                    sell(lots.indexOf(l), b, o, stems, price);
                    return price;
                }
            }
        }
        return 0;
    }

    private boolean fits(int[] order, int[] l) {
        int shown = Math.min(l[8], l[4]);
        int mark = growers.get(l[0])[2];
        return order[6] > 0 && order[1] == l[1] && l[3] <= order[2] && shown >= order[3] && mark >= order[4];
    }

    private boolean presses(int[] order, int start, int stamp) {
        int[] b = buyers.get(order[0]);
        int late = b[1] > b[2] ? b[1] - b[2] : 0;
        int tick = stamp - late;
        return tick >= 0 && start - tick == order[5];
    }

    private int sell(int lot, int buyer, int order, int stems, int price) {
        int[] l = lots.get(lot);
        int[] b = buyers.get(buyer);
        int[] g = growers.get(l[0]);
        int fee = price * stems / 20;
        int buckets = Math.min(l[5], buckets(stems));
        b[0] -= price * stems;
        hall += fee;
        g[0] += price * stems - fee;
        b[7] += buckets;
        l[5] -= buckets;
        b[0] -= 2 * buckets;
        hall += 2 * buckets;
        l[2] -= stems;
        if (l[2] == 0) {
            l[7] = 2;
        }
        g[3] += stems;
        if (order >= 0) {
            orders.get(order)[6] -= stems;
        }
        saleNumber++;
        rail.add(new int[] {buyer, l[1], stems, l[4], saleNumber});
        kept.add(new int[] {lot, buyer, stems, price, hour, buckets, order, saleNumber});
        if (kept.size() == 21) {
            kept.remove(0);
        }
        ever.add(new int[] {stems, price, saleNumber});
        return price * stems - fee;
    }

    public int presell(int lot, int buyer, int stems, int price) {
        exists(lot, lots);
        exists(buyer, buyers);
        between(stems, 1, Integer.MAX_VALUE);
        between(price, 1, 99);
        int[] l = lots.get(lot);
        state(l[7] == 0 && l[2] >= stems && buyers.get(buyer)[0] >= (long) price * stems);
        return sell(lot, buyer, -1, stems, price);
    }

    public int undo() {
        state(!kept.isEmpty());
        int[] s = kept.get(kept.size() - 1);
        int[] l = lots.get(s[0]);
        int[] b = buyers.get(s[1]);
        int[] g = growers.get(l[0]);
        state(s[4] == hour && l[7] != 3 && b[7] >= s[5]);
        int fee = s[2] * s[3] / 20;
        b[0] += s[2] * s[3] + 2 * s[5];
        hall -= fee + 2 * s[5];
        g[0] -= s[2] * s[3] - fee;
        b[7] -= s[5];
        l[5] += s[5];
        l[2] += s[2];
        if (l[7] == 2) {
            l[7] = 0;
        }
        g[3] -= s[2];
        if (s[6] >= 0) {
            orders.get(s[6])[6] += s[2];
        }
        if (!rail.removeIf(t -> t[4] == s[7])) {
            throw new AssertionError("the trolley of a sale that is undone is not on the rail");
        }
        ever.removeIf(e -> e[2] == s[7]);
        kept.remove(kept.size() - 1);
        return s[2];
    }

    public int speed(int speed) {
        between(speed, 1, 9);
        int before = railSpeed;
        railSpeed = speed;
        return before;
    }

    public int bind(int buyer, int many) {
        exists(buyer, buyers);
        between(many, 1, 99);
        int[] b = buyers.get(buyer);
        for (int bound = 0; bound < many; bound++) {
            int[] left = {b[4] - 3, b[5], b[6]};
            for (int i = 0; i < 2; i++) {
                if (left[1] > 0) {
                    left[1]--;
                } else {
                    left[0] -= 2;
                }
            }
            if (left[2] > 0) {
                left[2]--;
            } else {
                left[0] -= 2;
            }
            if (left[0] < 0) {
                return bound;
            }
            System.arraycopy(left, 0, b, 4, 3);
            b[8]++;
        }
        return many;
    }

    public int back(int buyer, int many) {
        exists(buyer, buyers);
        between(many, 1, Integer.MAX_VALUE);
        int[] b = buyers.get(buyer);
        state(b[7] >= many);
        b[7] -= many;
        b[0] += 2 * many;
        hall -= 2 * many;
        pool += many;
        return pool;
    }

    public int clear(int lot, boolean isGiven) {
        exists(lot, lots);
        int[] l = lots.get(lot);
        state(l[7] == 0);
        int stems = l[2];
        waste += l[2];
        pool += l[5];
        l[2] = 0;
        l[5] = 0;
        l[7] = 3;
        int[] g = growers.get(l[0]);
        if (isGiven && g[2] < 100) {
            g[2]++;
        }
        return stems;
    }

    public int vote(int cultivar, int quota) {
        if (cultivar < 0 || cultivar > 2) {
            throw new IndexOutOfBoundsException();
        }
        between(quota, 0, 999);
        int yes = 0;
        int all = 0;
        for (int[] g : growers) {
            all += 1 + g[3];
            yes += g[4 + cultivar] > quota ? 0 : 1 + g[3];
        }
        if (yes > all - yes) {
            this.quota[cultivar] = quota;
        }
        return yes;
    }

    public int ofCrop(int crop, int what) {
        exists(crop, crops);
        between(what, 0, 5);
        return crops.get(crop)[what];
    }

    public int ofLot(int lot, int what) {
        exists(lot, lots);
        between(what, 0, 9);
        return lots.get(lot)[what];
    }

    public int ofGrower(int grower, int what) {
        exists(grower, growers);
        between(what, 0, 4);
        int[] g = growers.get(grower);
        return what == 4 ? g[4] + g[5] + g[6] : g[what];
    }

    public int ofBuyer(int buyer, int what) {
        exists(buyer, buyers);
        between(what, 0, 8);
        return buyers.get(buyer)[what];
    }

    public int wants(int order) {
        exists(order, orders);
        return orders.get(order)[6];
    }

    public int sale(int k, int what) {
        exists(k, kept);
        between(what, 0, 4);
        return kept.get(kept.size() - 1 - k)[what];
    }

    public int row(int k) {
        between(k, 0, Integer.MAX_VALUE);
        return k < row.size() ? row.get(k) : -1;
    }

    public int many(int what) {
        between(what, 0, 15);
        int sold = ever.stream().mapToInt(e -> e[0]).sum();
        int least = rail.stream().mapToInt(t -> t[3]).min().orElse(-1);
        return new int[] {hour, growers.size(), crops.size(), lots.size(), buyers.size(), orders.size(),
            row.size(), rail.size(), pool, hall, waste, sold, quota[0], quota[1], quota[2], least}[what];
    }

    public double meanPrice() {
        double paid = 0;
        double stems = 0;
        for (int[] e : ever) {
            paid += e[0] * e[1];
            stems += e[0];
        }
        return stems == 0 ? 0 : paid / stems;
    }

    /** A copy in which the clock has sold that lot with its life as what is told. */
    private PlainHall afterClock(int lot, int minimum) {
        PlainHall c = copied();
        int[] l = c.lots.get(lot);
        l[7] = 1;
        l[8] = l[4];
        l[9] = minimum;
        c.row.clear();
        c.row.add(lot);
        c.kept.clear();
        c.clock();
        return c;
    }

    public int wouldFetch(int lot) {
        exists(lot, lots);
        PlainHall c = afterClock(lot, 1);
        return c.kept.isEmpty() ? -1 : c.kept.get(0)[3];
    }

    public int bestMinimum(int lot) {
        exists(lot, lots);
        int best = 0;
        int most = Integer.MIN_VALUE;
        for (int minimum = 1; minimum <= 99; minimum++) {
            int coins = afterClock(lot, minimum).growers.get(lots.get(lot)[0])[0];
            if (coins >= most) {
                most = coins;
                best = minimum;
            }
        }
        return best;
    }

    public int readyIn(int crop) {
        exists(crop, crops);
        int[] c = crops.get(crop);
        int sum = c[3];
        for (int hours = 0; hours <= 120; hours++) {
            if (c[4] == 1 || sum >= ASKED[c[1]]) {
                return hours;
            }
            sum += light + growers.get(c[0])[1];
        }
        return -1;
    }

    public int lampsFor(int cultivar, int hours) {
        if (cultivar < 0 || cultivar > 2) {
            throw new IndexOutOfBoundsException();
        }
        between(hours, 1, 200);
        for (int lamps = 0; lamps <= 3; lamps++) {
            if (hours * (light + lamps) >= ASKED[cultivar]) {
                return lamps;
            }
        }
        return -1;
    }

    public long digest() {
        List<Integer> v = new ArrayList<>();
        for (int i = 0; i <= 15; i++) {
            v.add(many(i));
        }
        for (int g = 0; g < growers.size(); g++) {
            for (int i = 0; i <= 4; i++) {
                v.add(ofGrower(g, i));
            }
        }
        for (int c = 0; c < crops.size(); c++) {
            for (int i = 0; i <= 5; i++) {
                v.add(ofCrop(c, i));
            }
            v.add(readyIn(c));
        }
        for (int l = 0; l < lots.size(); l++) {
            for (int i = 0; i <= 9; i++) {
                v.add(ofLot(l, i));
            }
            v.add(wouldFetch(l));
            v.add(bestMinimum(l));
        }
        for (int b = 0; b < buyers.size(); b++) {
            for (int i = 0; i <= 8; i++) {
                v.add(ofBuyer(b, i));
            }
        }
        for (int o = 0; o < orders.size(); o++) {
            v.add(wants(o));
        }
        for (int k = 0; k < kept.size(); k++) {
            for (int i = 0; i <= 4; i++) {
                v.add(sale(k, i));
            }
        }
        for (int k = 0; k <= 2; k++) {
            v.add(row(k));
        }
        for (int c = 0; c <= 2; c++) {
            v.add(lampsFor(c, 12));
        }
        long d = 58185;
        for (int each : v) {
            d = d * 31 + each;
        }
        return d;
    }
}
