import java.util.ArrayList;

/** A flower auction: growers, lots, a falling clock, a rail of trolleys, and what would be. */
public final class Bloomclock {
    private static final int NONE = -1;

    private static final int MOST_GROWERS = 4;
    private static final int MOST_CROPS = 8;
    private static final int MOST_LOTS = 16;
    private static final int MOST_BUYERS = 4;
    private static final int MOST_ORDERS = 12;
    private static final int MOST_SALES_KEPT = 20;
    private static final int MOST_PLANTS = 200;

    private static final int CULTIVARS = 3;
    private static final int MOST_LAMPS = 3;
    private static final int MOST_LIFE = 110;
    private static final int MOST_MARK = 100;
    private static final int MOST_PRICE = 99;
    private static final int MOST_LEAVING_HOUR = 9999;
    private static final int HOURS_OF_A_DAY = 24;

    private static final int HELD = 0;
    private static final int IN_ROW = 1;
    private static final int SOLD = 2;
    private static final int CLEARED = 3;

    private static final int COLD = 0;
    private static final int HALL = 1;
    private static final int DOCK = 2;

    private static final int STEMS_OF_A_BUCKET = 20;
    private static final int DEPOSIT_OF_A_BUCKET = 2;
    private static final int FEE_DIVISOR = 20;
    private static final int LIFE_LOST_ON_RAIL = 3;
    private static final int PRICE_RISE = 10;
    private static final int MARK_LOST = 10;
    private static final int MARK_GAINED = 2;

    private final ArrayList<Grower> growers;
    private final ArrayList<Crop> crops;
    private final ArrayList<Lot> lots;
    private final ArrayList<Lot> row;
    private final ArrayList<Buyer> buyers;
    private final ArrayList<Order> orders;
    private final ArrayList<Trolley> rail;
    private final ArrayList<Sale> sales;
    private final ByCultivar quotas;
    private final ClockRun run;
    private int hour;
    private int light;
    private int pool;
    private int railSpeed;
    private int hallCoins;
    private int waste;
    private int soldStems;
    private int soldCoins;

    /** Creates a hall without growers. */
    public Bloomclock() {
        growers = new ArrayList<Grower>();
        crops = new ArrayList<Crop>();
        lots = new ArrayList<Lot>();
        row = new ArrayList<Lot>();
        buyers = new ArrayList<Buyer>();
        orders = new ArrayList<Order>();
        rail = new ArrayList<Trolley>();
        sales = new ArrayList<Sale>();
        quotas = new ByCultivar(500);
        run = new ClockRun();
        light = 5;
        pool = 60;
        railSpeed = 2;
    }

    // ---- growing

    /** Tells a grower; returns its number. */
    public int grower() throws IllegalStateException {
        if (growers.size() >= MOST_GROWERS) {
            throw new IllegalStateException("there are 4 growers");
        }
        growers.add(new Grower());
        return growers.size() - 1;
    }

    /** Tells the lamps of a grower; returns those before. */
    public int lamps(int grower, int lamps) throws IndexOutOfBoundsException, IllegalArgumentException {
        Grower of = growerAt(grower);
        if (!isWithin(lamps, 0, MOST_LAMPS)) {
            throw new IllegalArgumentException("lamps are 0 to 3");
        }
        int before = of.lamps;
        of.lamps = lamps;
        return before;
    }

    /** Plants a crop; returns its number. */
    public int plant(int grower, int cultivar, int plants)
            throws IndexOutOfBoundsException, IllegalArgumentException, IllegalStateException {
        Grower of = growerAt(grower);
        if (!isCultivar(cultivar) || !isWithin(plants, 1, MOST_PLANTS)) {
            throw new IllegalArgumentException("a cultivar is 0 to 2, plants are 1 to 200");
        }
        if (crops.size() >= MOST_CROPS) {
            throw new IllegalStateException("there are 8 crops");
        }
        crops.add(new Crop(of, grower, cultivar, plants));
        return crops.size() - 1;
    }

    /** Cuts stems of a crop; returns the lot that they make. */
    public int cut(int crop, int stems)
            throws IndexOutOfBoundsException, IllegalArgumentException, IllegalStateException {
        Crop from = cropAt(crop);
        if (stems < 1) {
            throw new IllegalArgumentException("stems are 1 at least");
        }
        if (!from.isReady || stems > from.plants || lots.size() >= MOST_LOTS || bucketsFor(stems) > pool) {
            throw new IllegalStateException("the crop can not be cut");
        }
        Lot made = new Lot(lots.size(), from, stems, bucketsFor(stems));
        from.plants -= stems;
        pool -= made.buckets;
        lots.add(made);
        return made.number;
    }

    /** Moves a lot to a place; returns the place before. */
    public int move(int lot, int place)
            throws IndexOutOfBoundsException, IllegalArgumentException, IllegalStateException {
        Lot moved = lotAt(lot);
        if (!isWithin(place, COLD, DOCK)) {
            throw new IllegalArgumentException("a place is 0 to 2");
        }
        if (moved.state == SOLD || moved.state == CLEARED) {
            throw new IllegalStateException("the lot is sold or cleared");
        }
        int before = moved.place;
        moved.place = place;
        return before;
    }

    /** Lets hours pass with so much light; returns how many trolleys were brought. */
    public int pass(int hours, int light) throws IllegalArgumentException {
        if (!isWithin(hours, 1, 48) || !isWithin(light, 0, 9)) {
            throw new IllegalArgumentException("hours are 1 to 48, light is 0 to 9");
        }
        this.light = light;
        int brought = 0;
        for (int i = 0; i < hours; i++) {
            brought += passOneHour();
        }
        return brought;
    }

    // ---- the hall

    /** Brings a held lot into the row; returns how many lots are in the row then. */
    public int bring(int lot, int told, int minimum)
            throws IndexOutOfBoundsException, IllegalArgumentException, IllegalStateException {
        Lot brought = lotAt(lot);
        if (!isWithin(told, 0, MOST_LIFE) || !isWithin(minimum, 1, MOST_PRICE)) {
            throw new IllegalArgumentException("told is 0 to 110, a minimum is 1 to 99");
        }
        ByCultivar ofDay = brought.grower.broughtToday;
        int together = ofDay.of(brought.cultivar) + brought.stems;
        if (brought.state != HELD || together > quotas.of(brought.cultivar)) {
            throw new IllegalStateException("the lot is not held, or the quota does not let it");
        }
        ofDay.put(brought.cultivar, together);
        brought.told = told;
        brought.minimum = minimum;
        brought.state = IN_ROW;
        row.add(brought);
        return row.size();
    }

    /** Inspects a lot in the row; returns the mark of its grower then. */
    public int inspect(int lot) throws IndexOutOfBoundsException, IllegalStateException {
        Lot inspected = lotAt(lot);
        if (inspected.state != IN_ROW) {
            throw new IllegalStateException("the lot is not in the row");
        }
        Grower of = inspected.grower;
        if (inspected.told > inspected.life) {
            of.mark = Math.max(0, of.mark - MARK_LOST);
            inspected.told = inspected.life;
        } else {
            of.mark = Math.min(MOST_MARK, of.mark + MARK_GAINED);
        }
        return of.mark;
    }

    /** Tells a buyer; returns its number. */
    public int buyer(int latency) throws IllegalArgumentException, IllegalStateException {
        if (!isWithin(latency, 0, 9)) {
            throw new IllegalArgumentException("latency is 0 to 9");
        }
        if (buyers.size() >= MOST_BUYERS) {
            throw new IllegalStateException("there are 4 buyers");
        }
        buyers.add(new Buyer(buyers.size(), latency));
        return buyers.size() - 1;
    }

    /** Tells by how much a buyer is evened; returns that before. */
    public int even(int buyer, int much) throws IndexOutOfBoundsException, IllegalArgumentException {
        Buyer of = buyerAt(buyer);
        if (!isWithin(much, 0, 9)) {
            throw new IllegalArgumentException("a buyer is evened by 0 to 9");
        }
        int before = of.evened;
        of.evened = much;
        return before;
    }

    /** Tells when a buyer leaves (-1: it does not); returns that before. */
    public int leave(int buyer, int hour) throws IndexOutOfBoundsException, IllegalArgumentException {
        Buyer of = buyerAt(buyer);
        if (!isWithin(hour, NONE, MOST_LEAVING_HOUR)) {
            throw new IllegalArgumentException("a leaving hour is -1 to 9999");
        }
        int before = of.leavingHour;
        of.leavingHour = hour;
        return before;
    }

    /** Tells an order; returns its number. */
    public int order(int buyer, int cultivar, int grade, int shown, int mark, int limit, int stems)
            throws IndexOutOfBoundsException, IllegalArgumentException, IllegalStateException {
        Buyer of = buyerAt(buyer);
        boolean isForAnyLot = isCultivar(cultivar) && isWithin(grade, 0, 2)
                && isWithin(shown, 0, MOST_LIFE) && isWithin(mark, 0, MOST_MARK);
        if (!isForAnyLot || !isWithin(limit, 1, MOST_PRICE) || !isWithin(stems, 1, 500)) {
            throw new IllegalArgumentException("an order asks for what can not be");
        }
        if (orders.size() >= MOST_ORDERS) {
            throw new IllegalStateException("there are 12 orders");
        }
        orders.add(new Order(of, cultivar, grade, shown, mark, limit, stems));
        return orders.size() - 1;
    }

    /** Lets the clock sell the first lot of the row; returns how many stems of it were sold. */
    public int clock() throws IllegalStateException {
        if (row.isEmpty()) {
            throw new IllegalStateException("the row is empty");
        }
        Lot lot = row.remove(0);
        int before = lot.stems;
        run.begin(lot, lot.told, lot.minimum, buyers, orders);
        // Each sale takes a stem at least, and no lot has more stems than a crop has plants.
        Order taker = run.nextTaker(orders);
        for (int i = 0; i < MOST_PLANTS && taker != null; i++) {
            sell(lot, taker.buyer, taker, run.stems, run.price);
            taker = run.nextTaker(orders);
        }
        if (lot.state == IN_ROW) {
            lot.state = HELD;
        }
        return before - lot.stems;
    }

    /** Sells ahead of the clock; returns what the grower gets. */
    public int presell(int lot, int buyer, int stems, int price)
            throws IndexOutOfBoundsException, IllegalArgumentException, IllegalStateException {
        Lot sold = lotAt(lot);
        Buyer to = buyerAt(buyer);
        if (stems < 1 || !isWithin(price, 1, MOST_PRICE)) {
            throw new IllegalArgumentException("stems are 1 at least, a price is 1 to 99");
        }
        if (sold.state != HELD || stems > sold.stems || price * stems > to.coins) {
            throw new IllegalStateException("the lot can not be sold so");
        }
        sell(sold, to, null, stems, price);
        return shareOfGrower(price * stems);
    }

    /** Undoes the latest sale; returns how many stems come back. */
    public int undo() throws IllegalStateException {
        if (sales.isEmpty()) {
            throw new IllegalStateException("no sale is kept");
        }
        Sale latest = sales.get(sales.size() - 1);
        if (latest.hour != hour || latest.lot.state == CLEARED || latest.buyer.buckets < latest.buckets) {
            throw new IllegalStateException("the latest sale can not be undone");
        }
        sales.remove(sales.size() - 1);
        takeBack(latest);
        return latest.stems;
    }

    /** Tells the speed of the rail; returns that before. */
    public int speed(int speed) throws IllegalArgumentException {
        if (!isWithin(speed, 1, 9)) {
            throw new IllegalArgumentException("the speed is 1 to 9");
        }
        int before = railSpeed;
        railSpeed = speed;
        return before;
    }

    /** Binds so many bouquets at most from the stock of a buyer; returns how many. */
    public int bind(int buyer, int many) throws IndexOutOfBoundsException, IllegalArgumentException {
        Buyer of = buyerAt(buyer);
        if (!isWithin(many, 1, 99)) {
            throw new IllegalArgumentException("bouquets are 1 to 99");
        }
        int bound = 0;
        while (bound < many && bindsOne(of.stock)) {
            bound++;
        }
        of.bouquets += bound;
        return bound;
    }

    /** Brings buckets back; returns how many are in the pool then. */
    public int back(int buyer, int many)
            throws IndexOutOfBoundsException, IllegalArgumentException, IllegalStateException {
        Buyer from = buyerAt(buyer);
        if (many < 1) {
            throw new IllegalArgumentException("buckets are 1 at least");
        }
        if (many > from.buckets) {
            throw new IllegalStateException("the buyer has less buckets");
        }
        from.buckets -= many;
        pool += many;
        from.coins += many * DEPOSIT_OF_A_BUCKET;
        hallCoins -= many * DEPOSIT_OF_A_BUCKET;
        return pool;
    }

    /** Clears a held lot; returns how many stems it had. */
    public int clear(int lot, boolean isGiven) throws IndexOutOfBoundsException, IllegalStateException {
        Lot cleared = lotAt(lot);
        if (cleared.state != HELD) {
            throw new IllegalStateException("the lot is not held");
        }
        int had = cleared.stems;
        waste += had;
        pool += cleared.buckets;
        cleared.stems = 0;
        cleared.buckets = 0;
        cleared.state = CLEARED;
        if (isGiven) {
            cleared.grower.mark = Math.min(MOST_MARK, cleared.grower.mark + 1);
        }
        return had;
    }

    /** Votes for a quota of a cultivar; returns the weight of those who said yes. */
    public int vote(int cultivar, int quota) throws IndexOutOfBoundsException, IllegalArgumentException {
        if (!isCultivar(cultivar)) {
            throw new IndexOutOfBoundsException("a cultivar is 0 to 2");
        }
        if (!isWithin(quota, 0, 999)) {
            throw new IllegalArgumentException("a quota is 0 to 999");
        }
        int weightFor = 0;
        int weightAgainst = 0;
        for (int i = 0; i < growers.size(); i++) {
            Grower voter = growers.get(i);
            int weight = 1 + voter.soldStems;
            if (voter.broughtToday.of(cultivar) <= quota) {
                weightFor += weight;
            } else {
                weightAgainst += weight;
            }
        }
        if (weightFor > weightAgainst) {
            quotas.put(cultivar, quota);
        }
        return weightFor;
    }

    // ---- what is asked

    /** Returns what is asked of a crop. */
    public int ofCrop(int crop, int what) throws IndexOutOfBoundsException, IllegalArgumentException {
        Crop asked = cropAt(crop);
        if (!isWithin(what, 0, Crop.LAST_NUMBER)) {
            throw new IllegalArgumentException("what is 0 to 5");
        }
        return asked.numberOf(what);
    }

    /** Returns what is asked of a lot. */
    public int ofLot(int lot, int what) throws IndexOutOfBoundsException, IllegalArgumentException {
        Lot asked = lotAt(lot);
        if (!isWithin(what, 0, Lot.LAST_NUMBER)) {
            throw new IllegalArgumentException("what is 0 to 9");
        }
        return asked.numberOf(what);
    }

    /** Returns what is asked of a grower. */
    public int ofGrower(int grower, int what) throws IndexOutOfBoundsException, IllegalArgumentException {
        Grower asked = growerAt(grower);
        if (!isWithin(what, 0, Grower.LAST_NUMBER)) {
            throw new IllegalArgumentException("what is 0 to 4");
        }
        return asked.numberOf(what);
    }

    /** Returns what is asked of a buyer. */
    public int ofBuyer(int buyer, int what) throws IndexOutOfBoundsException, IllegalArgumentException {
        Buyer asked = buyerAt(buyer);
        if (!isWithin(what, 0, Buyer.LAST_NUMBER)) {
            throw new IllegalArgumentException("what is 0 to 8");
        }
        return asked.numberOf(what);
    }

    /** Returns how much an order still wants. */
    public int wants(int order) throws IndexOutOfBoundsException {
        if (order < 0 || order >= orders.size()) {
            throw new IndexOutOfBoundsException("there is no such order");
        }
        return orders.get(order).wanted;
    }

    /** Returns what is asked of a sale that is kept, the latest one 0. */
    public int sale(int k, int what) throws IndexOutOfBoundsException, IllegalArgumentException {
        if (k < 0 || k >= sales.size()) {
            throw new IndexOutOfBoundsException("there is no such sale");
        }
        if (!isWithin(what, 0, Sale.LAST_NUMBER)) {
            throw new IllegalArgumentException("what is 0 to 4");
        }
        return sales.get(sales.size() - 1 - k).numberOf(what);
    }

    /** Returns the lot at a place in the row; -1, if there is none. */
    public int row(int k) throws IllegalArgumentException {
        if (k < 0) {
            throw new IllegalArgumentException("a place is 0 at least");
        }
        return lotInRow(k);
    }

    /** Returns what is asked of the hall. */
    public int many(int what) throws IllegalArgumentException {
        if (!isWithin(what, 0, 15)) {
            throw new IllegalArgumentException("what is 0 to 15");
        }
        return numberOfHall(what);
    }

    /** Returns the mean price of all stems that were sold; 0 without any. */
    public double meanPrice() {
        if (soldStems < 1) {
            return 0.0;
        }
        return (double) soldCoins / (double) soldStems;
    }

    // ---- what would be (nothing is changed)

    /** Returns the price of the first sale, if the clock sold a lot now; -1, if nobody took it. */
    public int wouldFetch(int lot) throws IndexOutOfBoundsException {
        return firstPriceOf(lotAt(lot));
    }

    /** Returns the greatest minimum with which the grower of a lot would get most now. */
    public int bestMinimum(int lot) throws IndexOutOfBoundsException {
        return lowestPriceOf(lotAt(lot));
    }

    /** Returns in how many hours a crop would be ready; 0, if it is; -1, if never. */
    public int readyIn(int crop) throws IndexOutOfBoundsException {
        return hoursUntilReady(cropAt(crop));
    }

    /** Returns the fewest lamps with which a new crop would be ready in so many hours; -1, if 3 are too few. */
    public int lampsFor(int cultivar, int hours) throws IndexOutOfBoundsException, IllegalArgumentException {
        if (!isCultivar(cultivar)) {
            throw new IndexOutOfBoundsException("a cultivar is 0 to 2");
        }
        if (!isWithin(hours, 1, 200)) {
            throw new IllegalArgumentException("hours are 1 to 200");
        }
        return fewestLamps(cultivar, hours);
    }

    /** Computes a checksum of all that can be asked. */
    public long digest() {
        long d = 58185L;
        for (int what = 0; what <= 15; what++) {
            d = mixed(d, numberOfHall(what));
        }
        d = mixedWithGrowing(d);
        d = mixedWithLots(d);
        d = mixedWithTrade(d);
        for (int k = 0; k <= 2; k++) {
            d = mixed(d, lotInRow(k));
        }
        for (int cultivar = 0; cultivar < CULTIVARS; cultivar++) {
            d = mixed(d, fewestLamps(cultivar, 12));
        }
        return d;
    }

    // ---- who is meant

    private Grower growerAt(int grower) {
        if (grower < 0 || grower >= growers.size()) {
            throw new IndexOutOfBoundsException("there is no such grower");
        }
        return growers.get(grower);
    }

    private Crop cropAt(int crop) {
        if (crop < 0 || crop >= crops.size()) {
            throw new IndexOutOfBoundsException("there is no such crop");
        }
        return crops.get(crop);
    }

    private Lot lotAt(int lot) {
        if (lot < 0 || lot >= lots.size()) {
            throw new IndexOutOfBoundsException("there is no such lot");
        }
        return lots.get(lot);
    }

    private Buyer buyerAt(int buyer) {
        if (buyer < 0 || buyer >= buyers.size()) {
            throw new IndexOutOfBoundsException("there is no such buyer");
        }
        return buyers.get(buyer);
    }

    private static boolean isWithin(int number, int least, int most) {
        return number >= least && number <= most;
    }

    private static boolean isCultivar(int cultivar) {
        return cultivar >= 0 && cultivar < CULTIVARS;
    }

    // ---- an hour

    private int passOneHour() {
        hour++;
        if (hour % HOURS_OF_A_DAY == 0) {
            beginDay();
        }
        growCrops();
        payForLamps();
        loseLife();
        return runRail();
    }

    private void beginDay() {
        for (int i = 0; i < growers.size(); i++) {
            growers.get(i).broughtToday.putAll(0);
        }
    }

    private void growCrops() {
        for (int i = 0; i < crops.size(); i++) {
            Crop crop = crops.get(i);
            crop.growBy(light + crop.grower.lamps);
        }
    }

    private void payForLamps() {
        for (int i = 0; i < growers.size(); i++) {
            Grower payer = growers.get(i);
            payer.coins -= payer.lamps;
        }
    }

    private void loseLife() {
        for (int i = 0; i < lots.size(); i++) {
            Lot lot = lots.get(i);
            if (lot.stems > 0) {
                lot.life = Math.max(0, lot.life - lifeLostIn(lot.place));
            }
        }
        for (int i = 0; i < rail.size(); i++) {
            Trolley trolley = rail.get(i);
            trolley.life = Math.max(0, trolley.life - LIFE_LOST_ON_RAIL);
        }
    }

    private static int lifeLostIn(int place) {
        switch (place) {
            case COLD:
                return 1;
            case HALL:
                return 3;
            default:
                return 6;
        }
    }

    private int runRail() {
        int brought = 0;
        while (brought < railSpeed && !rail.isEmpty()) {
            unload(rail.remove(nextOnRail()));
            brought++;
        }
        return brought;
    }

    /** The place on the rail of the trolley that is brought next; 0 on an empty rail. */
    private int nextOnRail() {
        int next = 0;
        int smallest = MOST_LEAVING_HOUR + 1;
        for (int i = 0; i < rail.size(); i++) {
            int leaving = rail.get(i).buyer.leavingHour;
            if (leaving != NONE && leaving < smallest) {
                next = i;
                smallest = leaving;
            }
        }
        return next;
    }

    private void unload(Trolley trolley) {
        Buyer to = trolley.buyer;
        if (to.leavingHour != NONE && to.leavingHour < hour) {
            waste += trolley.stems;
        } else {
            to.stock.put(trolley.cultivar, to.stock.of(trolley.cultivar) + trolley.stems);
        }
    }

    // ---- a sale

    private static int bucketsFor(int stems) {
        return stems / STEMS_OF_A_BUCKET + (stems % STEMS_OF_A_BUCKET > 0 ? 1 : 0);
    }

    private static int shareOfGrower(int paid) {
        return paid - paid / FEE_DIVISOR;
    }

    /** Sells stems of a lot for an order, or ahead of the clock, where the order is null. */
    private void sell(Lot lot, Buyer buyer, Order order, int stems, int price) {
        int buckets = Math.min(bucketsFor(stems), lot.buckets);
        Sale made = new Sale(lot, buyer, order, stems, price, hour, buckets);
        book(made, 1);
        if (lot.stems < 1) {
            lot.state = SOLD;
        }
        rail.add(new Trolley(buyer, lot.cultivar, stems, lot.life));
        if (sales.size() >= MOST_SALES_KEPT) {
            sales.remove(0);
        }
        sales.add(made);
    }

    private void takeBack(Sale undone) {
        book(undone, -1);
        if (undone.lot.state == SOLD) {
            undone.lot.state = HELD;
        }
        // No trolley was brought in the hour of the sale: that of the latest sale is the last one.
        if (!rail.isEmpty()) {
            rail.remove(rail.size() - 1);
        }
    }

    /** Books what changes hands by a sale: as it is made with the sign 1, as it is undone with -1. */
    private void book(Sale sale, int sign) {
        int stems = sign * sale.stems;
        int buckets = sign * sale.buckets;
        int deposit = DEPOSIT_OF_A_BUCKET * buckets;
        int paid = sign * sale.price * sale.stems;
        int share = sign * shareOfGrower(sale.price * sale.stems);
        sale.buyer.coins -= paid + deposit;
        sale.buyer.buckets += buckets;
        hallCoins += paid - share + deposit;
        sale.lot.grower.coins += share;
        sale.lot.grower.soldStems += stems;
        sale.lot.stems -= stems;
        sale.lot.buckets -= buckets;
        soldStems += stems;
        soldCoins += paid;
        if (sale.order != null) {
            sale.order.wanted -= stems;
        }
    }

    /** Takes the stems of one bouquet from a stock, if they are there. */
    private static boolean bindsOne(ByCultivar stock) {
        int ofOne = Math.min(2, stock.of(1));
        int ofTwo = Math.min(1, stock.of(2));
        int ofZero = 3 + 2 * (2 - ofOne) + 2 * (1 - ofTwo);
        if (ofZero > stock.of(0)) {
            return false;
        }
        stock.put(0, stock.of(0) - ofZero);
        stock.put(1, stock.of(1) - ofOne);
        stock.put(2, stock.of(2) - ofTwo);
        return true;
    }

    // ---- what is told of the hall

    private int lotInRow(int k) {
        if (k < 0 || k >= row.size()) {
            return NONE;
        }
        return row.get(k).number;
    }

    private int leastLifeOnRail() {
        if (rail.isEmpty()) {
            return NONE;
        }
        int least = MOST_LIFE;
        for (int i = 0; i < rail.size(); i++) {
            least = Math.min(least, rail.get(i).life);
        }
        return least;
    }

    private int numberOfHall(int what) {
        switch (what) {
            case 0:
                return hour;
            case 1:
                return growers.size();
            case 2:
                return crops.size();
            case 3:
                return lots.size();
            case 4:
                return buyers.size();
            case 5:
                return orders.size();
            case 6:
                return row.size();
            case 7:
                return rail.size();
            case 8:
                return pool;
            case 9:
                return hallCoins;
            case 10:
                return waste;
            case 11:
                return soldStems;
            case 15:
                return leastLifeOnRail();
            default:
                return quotas.of(what - 12);
        }
    }

    // ---- what would be

    private int firstPriceOf(Lot lot) {
        run.begin(lot, lot.life, 1, buyers, orders);
        return run.nextTaker(orders) == null ? NONE : run.price;
    }

    /**
     * The best minimum. A minimum only ends the sales at the first one whose price is below it, and the
     * grower gets 1 coin at least of each: the best ones let all sales be, and the greatest of these is
     * the lowest price.
     */
    private int lowestPriceOf(Lot lot) {
        int lowest = MOST_PRICE;
        run.begin(lot, lot.life, 1, buyers, orders);
        for (int i = 0; i < MOST_PLANTS && run.nextTaker(orders) != null; i++) {
            lowest = Math.min(lowest, run.price);
        }
        return lowest;
    }

    private int hoursUntilReady(Crop crop) {
        if (crop.isReady) {
            return 0;
        }
        int each = light + crop.grower.lamps;
        if (each < 1) {
            return NONE;
        }
        return (sumAsked(crop.cultivar) - crop.sum + each - 1) / each;
    }

    private int fewestLamps(int cultivar, int hours) {
        for (int lamps = 0; lamps <= MOST_LAMPS; lamps++) {
            if ((light + lamps) * hours >= sumAsked(cultivar)) {
                return lamps;
            }
        }
        return NONE;
    }

    private static int sumAsked(int cultivar) {
        switch (cultivar) {
            case 0:
                return 60;
            case 1:
                return 90;
            default:
                return 120;
        }
    }

    private static int freshLife(int cultivar) {
        switch (cultivar) {
            case 0:
                return 90;
            case 1:
                return 70;
            default:
                return 110;
        }
    }

    // ---- the checksum

    private static long mixed(long d, long v) {
        return d * 31L + v;
    }

    private long mixedWithGrowing(long before) {
        long d = before;
        for (int i = 0; i < growers.size(); i++) {
            for (int what = 0; what <= Grower.LAST_NUMBER; what++) {
                d = mixed(d, growers.get(i).numberOf(what));
            }
        }
        for (int i = 0; i < crops.size(); i++) {
            Crop crop = crops.get(i);
            for (int what = 0; what <= Crop.LAST_NUMBER; what++) {
                d = mixed(d, crop.numberOf(what));
            }
            d = mixed(d, hoursUntilReady(crop));
        }
        return d;
    }

    private long mixedWithLots(long before) {
        long d = before;
        for (int i = 0; i < lots.size(); i++) {
            Lot lot = lots.get(i);
            for (int what = 0; what <= Lot.LAST_NUMBER; what++) {
                d = mixed(d, lot.numberOf(what));
            }
            d = mixed(d, firstPriceOf(lot));
            d = mixed(d, lowestPriceOf(lot));
        }
        return d;
    }

    private long mixedWithTrade(long before) {
        long d = before;
        for (int i = 0; i < buyers.size(); i++) {
            for (int what = 0; what <= Buyer.LAST_NUMBER; what++) {
                d = mixed(d, buyers.get(i).numberOf(what));
            }
        }
        for (int i = 0; i < orders.size(); i++) {
            d = mixed(d, orders.get(i).wanted);
        }
        for (int i = sales.size() - 1; i >= 0; i--) {
            for (int what = 0; what <= Sale.LAST_NUMBER; what++) {
                d = mixed(d, sales.get(i).numberOf(what));
            }
        }
        return d;
    }

    /** A number for each cultivar; what is no cultivar has 0 and takes none. */
    private static final class ByCultivar {
        private final int[] numbers;

        ByCultivar(int first) {
            numbers = new int[] {first, first, first};
        }

        int of(int cultivar) {
            return cultivar >= 0 && cultivar < numbers.length ? numbers[cultivar] : 0;
        }

        void put(int cultivar, int number) {
            if (cultivar >= 0 && cultivar < numbers.length) {
                numbers[cultivar] = number;
            }
        }

        void putAll(int number) {
            for (int i = 0; i < numbers.length; i++) {
                numbers[i] = number;
            }
        }

        int total() {
            int total = 0;
            for (int i = 0; i < numbers.length; i++) {
                total += numbers[i];
            }
            return total;
        }
    }

    private static final class Grower {
        static final int LAST_NUMBER = 4;

        final ByCultivar broughtToday = new ByCultivar(0);
        int coins = 100;
        int lamps;
        int mark = 50;
        int soldStems;

        int numberOf(int what) {
            switch (what) {
                case 0:
                    return coins;
                case 1:
                    return lamps;
                case 2:
                    return mark;
                case 3:
                    return soldStems;
                default:
                    return broughtToday.total();
            }
        }
    }

    private static final class Crop {
        static final int LAST_NUMBER = 5;

        final Grower grower;
        final int growerNumber;
        final int cultivar;
        int plants;
        int sum;
        boolean isReady;
        int age;

        Crop(Grower grower, int growerNumber, int cultivar, int plants) {
            this.grower = grower;
            this.growerNumber = growerNumber;
            this.cultivar = cultivar;
            this.plants = plants;
        }

        void growBy(int more) {
            sum += more;
            if (isReady) {
                age++;
            }
            isReady = isReady || sum >= sumAsked(cultivar);
        }

        int numberOf(int what) {
            switch (what) {
                case 0:
                    return growerNumber;
                case 1:
                    return cultivar;
                case 2:
                    return plants;
                case 3:
                    return sum;
                case 4:
                    return isReady ? 1 : 0;
                default:
                    return age;
            }
        }
    }

    private static final class Lot {
        static final int LAST_NUMBER = 9;

        final int number;
        final Grower grower;
        final int growerNumber;
        final int cultivar;
        final int grade;
        int stems;
        int life;
        int buckets;
        int place = HALL;
        int state = HELD;
        int told = NONE;
        int minimum = NONE;

        Lot(int number, Crop from, int stems, int buckets) {
            this.number = number;
            this.grower = from.grower;
            this.growerNumber = from.growerNumber;
            this.cultivar = from.cultivar;
            this.grade = from.age <= 10 ? 0 : from.age <= 20 ? 1 : 2;
            this.stems = stems;
            this.life = Math.max(0, freshLife(from.cultivar) - 2 * from.age);
            this.buckets = buckets;
        }

        int numberOf(int what) {
            switch (what) {
                case 0:
                    return growerNumber;
                case 1:
                    return cultivar;
                case 2:
                    return stems;
                case 3:
                    return grade;
                case 4:
                    return life;
                case 5:
                    return buckets;
                case 6:
                    return place;
                case 7:
                    return state;
                case 8:
                    return told;
                default:
                    return minimum;
            }
        }
    }

    private static final class Buyer {
        static final int LAST_NUMBER = 8;

        final int number;
        final int latency;
        final ByCultivar stock = new ByCultivar(0);
        int coins = 2000;
        int evened;
        int leavingHour = NONE;
        int buckets;
        int bouquets;
        /** What a run of the clock needs: its coins in that run, how late it presses, whether it is out. */
        int purse;
        int late;
        boolean isOut;

        Buyer(int number, int latency) {
            this.number = number;
            this.latency = latency;
        }

        int numberOf(int what) {
            switch (what) {
                case 0:
                    return coins;
                case 1:
                    return latency;
                case 2:
                    return evened;
                case 3:
                    return leavingHour;
                case 7:
                    return buckets;
                case 8:
                    return bouquets;
                default:
                    return stock.of(what - 4);
            }
        }
    }

    private static final class Order {
        final Buyer buyer;
        final int cultivar;
        final int grade;
        final int shown;
        final int mark;
        final int limit;
        int wanted;
        /** What it still wants in a run of the clock. */
        int open;

        Order(Buyer buyer, int cultivar, int grade, int shown, int mark, int limit, int wanted) {
            this.buyer = buyer;
            this.cultivar = cultivar;
            this.grade = grade;
            this.shown = shown;
            this.mark = mark;
            this.limit = limit;
            this.wanted = wanted;
        }
    }

    private static final class Trolley {
        final Buyer buyer;
        final int cultivar;
        final int stems;
        int life;

        Trolley(Buyer buyer, int cultivar, int stems, int life) {
            this.buyer = buyer;
            this.cultivar = cultivar;
            this.stems = stems;
            this.life = life;
        }
    }

    private static final class Sale {
        static final int LAST_NUMBER = 4;

        final Lot lot;
        final Buyer buyer;
        final Order order;
        final int stems;
        final int price;
        final int hour;
        final int buckets;

        Sale(Lot lot, Buyer buyer, Order order, int stems, int price, int hour, int buckets) {
            this.lot = lot;
            this.buyer = buyer;
            this.order = order;
            this.stems = stems;
            this.price = price;
            this.hour = hour;
            this.buckets = buckets;
        }

        int numberOf(int what) {
            switch (what) {
                case 0:
                    return lot.number;
                case 1:
                    return buyer.number;
                case 2:
                    return stems;
                case 3:
                    return price;
                default:
                    return hour;
            }
        }
    }

    /**
     * A run of the clock over one lot. It keeps its own count of coins, stems, buckets and wants, so that
     * the same run tells what would be (nothing is changed) and what is (each sale is then booked).
     */
    private static final class ClockRun {
        private int cultivar;
        private int grade;
        private int shown;
        private int mark;
        private int minimum;
        private int start;
        private int stemsLeft;
        private int bucketsLeft;
        /** What the taker that was found last takes, and at which price. */
        int stems;
        int price;

        void begin(Lot lot, int told, int minimum, ArrayList<Buyer> buyers, ArrayList<Order> orders) {
            cultivar = lot.cultivar;
            grade = lot.grade;
            shown = Math.min(told, lot.life);
            mark = lot.grower.mark;
            this.minimum = minimum;
            start = MOST_PRICE;
            stemsLeft = lot.stems;
            bucketsLeft = lot.buckets;
            for (int i = 0; i < buyers.size(); i++) {
                Buyer each = buyers.get(i);
                each.purse = each.coins;
                each.late = Math.max(0, each.latency - each.evened);
                each.isOut = false;
            }
            for (int i = 0; i < orders.size(); i++) {
                Order each = orders.get(i);
                each.open = each.wanted;
            }
        }

        /** Finds the order that takes next; null, if nobody takes any more. */
        Order nextTaker(ArrayList<Order> orders) {
            // Each turn that finds no sale puts one more buyer out.
            for (int i = 0; i <= MOST_BUYERS; i++) {
                Order first = firstToPress(orders);
                if (first == null || stemsLeft < 1) {
                    return null;
                }
                int pressed = start - stampOf(first);
                if (pressed < minimum || pressed < 1) {
                    return null;
                }
                int payable = first.buyer.purse / pressed;
                int taken = Math.min(payable, Math.min(first.open, stemsLeft));
                if (taken > 0) {
                    take(first, taken, pressed);
                    return first;
                }
                first.buyer.isOut = true;
            }
            return null;
        }

        private Order firstToPress(ArrayList<Order> orders) {
            Order first = null;
            for (int i = 0; i < orders.size(); i++) {
                Order each = orders.get(i);
                if (fits(each) && (first == null || isAhead(each, first))) {
                    first = each;
                }
            }
            return first;
        }

        private boolean fits(Order each) {
            return each.open > 0 && !each.buyer.isOut && each.cultivar == cultivar
                    && each.grade >= grade && each.shown <= shown && each.mark <= mark;
        }

        /** Whether an order is ahead of one that was told before it. */
        private boolean isAhead(Order later, Order earlier) {
            int stamp = stampOf(later);
            int toBeat = stampOf(earlier);
            return stamp < toBeat || (stamp == toBeat && later.buyer.number < earlier.buyer.number);
        }

        private int stampOf(Order each) {
            return start - each.limit + each.buyer.late;
        }

        private void take(Order by, int taken, int pressed) {
            int buckets = Math.min(bucketsFor(taken), bucketsLeft);
            stems = taken;
            price = pressed;
            by.open -= taken;
            by.buyer.purse -= pressed * taken + DEPOSIT_OF_A_BUCKET * buckets;
            stemsLeft -= taken;
            bucketsLeft -= buckets;
            start = Math.min(MOST_PRICE, pressed + PRICE_RISE);
        }
    }
}
