/**
 * A planner of season prices for three stores: stock in three sizes, demands by price steps, markdowns with a gap of
 * weeks between them, and the best ladder of steps for what is left of the season.
 */
public final class MarkdownPlanner {
    private static final int STORES = 3;
    private static final int SIZES = 3;
    private static final int STEPS = 5;
    private static final int LAST_STEP = STEPS - 1;

    private static final int MOST_WEEKS = 10;
    private static final int MOST_WEEKS_BY_ALL = 6;
    private static final int MOST_PRICE = 1000;
    private static final int MOST_DEMAND = 30;
    private static final int MOST_GAP = 4;
    private static final int MOST_MOVING = 100;
    private static final int MOST_PIECES = 40;
    private static final int MOST_STOCK = 60;

    private static final int FIRST_WEEKS = 8;
    private static final int FIRST_PRICE = 100;
    private static final int FIRST_GAP = 2;

    private static final int NEVER = -1;
    private static final int NO_PLAN = -1;

    private final Season season = new Season();
    private final Store[] stores = new Store[STORES];
    private final Plans plans = new Plans();

    public MarkdownPlanner() {
        for (int store = 0; store < STORES; store++) {
            stores[store] = new Store();
        }
    }

    // ---- setting up

    public int begin(int weeks) throws IllegalArgumentException {
        requireWithin(weeks, 1, MOST_WEEKS);
        int weeksRun = season.week;
        season.startAnew(weeks);
        for (Store store : stores) {
            store.startAnew();
        }
        return weeksRun;
    }

    public int setPrice(int step, int price) throws IllegalArgumentException, IllegalStateException {
        requireStep(step);
        requireWithin(price, 0, MOST_PRICE);
        if (!season.keepsLadderDown(step, price)) {
            throw new IllegalStateException("prices only go down from step to step");
        }
        int before = season.prices[step];
        season.prices[step] = price;
        return before;
    }

    public int setDemand(int store, int step, int pieces) throws IllegalArgumentException {
        Store owner = storeOf(store);
        requireStep(step);
        requireWithin(pieces, 0, MOST_DEMAND);
        int before = owner.demands[step];
        owner.demands[step] = pieces;
        return before;
    }

    public void setRules(int gap, int remnant, int moving) throws IllegalArgumentException {
        requireWithin(gap, 1, MOST_GAP);
        requireWithin(remnant, 0, MOST_PRICE);
        requireWithin(moving, 0, MOST_MOVING);
        season.gap = gap;
        season.remnant = remnant;
        season.moving = moving;
    }

    // ---- acts

    public int put(int store, int size, int pieces) throws IllegalArgumentException, IllegalStateException {
        Store owner = storeOf(store);
        requireSize(size);
        requireWithin(pieces, 1, MOST_PIECES);
        requireRoomFor(owner, pieces);
        owner.pieces[size] += pieces;
        return owner.pieces[size];
    }

    public int markDown(int store, int step) throws IllegalArgumentException, IllegalStateException {
        Store owner = storeOf(store);
        requireStep(step);
        requireSeasonOn();
        if (step <= owner.step) {
            throw new IllegalStateException("the step is not above that of the store");
        }
        if (owner.waitFrom(season.week, season.gap) > 0) {
            throw new IllegalStateException("the gap has not gone by");
        }
        owner.step = step;
        owner.markedDownIn = season.week;
        return season.prices[step];
    }

    public int move(int from, int to, int size, int pieces) throws IllegalArgumentException, IllegalStateException {
        Store giver = storeOf(from);
        Store taker = storeOf(to);
        requireSize(size);
        requireWithin(pieces, 1, MOST_PIECES);
        if (from == to) {
            throw new IllegalArgumentException("the stores are the same");
        }
        requireSeasonOn();
        if (giver.pieces[size] < pieces) {
            throw new IllegalStateException("there are not so many pieces");
        }
        requireRoomFor(taker, pieces);
        giver.pieces[size] -= pieces;
        taker.pieces[size] += pieces;
        int cost = pieces * season.moving;
        season.taken -= cost;
        return cost;
    }

    public int run() throws IllegalStateException {
        requireSeasonOn();
        int takings = 0;
        for (Store store : stores) {
            takings += store.sellForAWeek() * season.prices[store.step];
        }
        season.taken += takings;
        season.week++;
        return takings;
    }

    // ---- what is

    public int week() {
        return season.week;
    }

    public int stock(int store, int size) throws IllegalArgumentException {
        Store owner = storeOf(store);
        requireSize(size);
        return owner.pieces[size];
    }

    public int step(int store) throws IllegalArgumentException {
        return storeOf(store).step;
    }

    public int weeksToWait(int store) throws IllegalArgumentException {
        return storeOf(store).waitFrom(season.week, season.gap);
    }

    public int sold(int store) throws IllegalArgumentException {
        return storeOf(store).piecesSold;
    }

    public int taken() {
        return season.taken;
    }

    public int wouldSell(int store, int step) throws IllegalArgumentException {
        Store owner = storeOf(store);
        requireStep(step);
        return owner.salesAt(step);
    }

    // ---- plans

    public int best(int store) throws IllegalArgumentException {
        plans.lookAt(season, storeOf(store));
        return plans.greatestWorth(MOST_STOCK);
    }

    public int bestByAll(int store) throws IllegalArgumentException, IllegalStateException {
        Store owner = storeOf(store);
        if (season.weeks - season.week > MOST_WEEKS_BY_ALL) {
            throw new IllegalStateException("too many weeks are left");
        }
        plans.lookAt(season, owner);
        return plans.greatestWorthByAll();
    }

    public int planned(int store, int week) throws IllegalArgumentException {
        Store owner = storeOf(store);
        requireWithin(week, season.week, season.weeks - 1);
        plans.lookAt(season, owner);
        return plans.bestStepIn(week);
    }

    public int bestLeaving(int store, int left) throws IllegalArgumentException {
        Store owner = storeOf(store);
        requireWithin(left, 0, MOST_STOCK);
        plans.lookAt(season, owner);
        return plans.greatestWorth(left);
    }

    // ---- what calls require

    private static void requireWithin(int value, int least, int most) throws IllegalArgumentException {
        if (value < least || value > most) {
            throw new IllegalArgumentException("out of range");
        }
    }

    private static void requireStep(int step) throws IllegalArgumentException {
        requireWithin(step, 0, LAST_STEP);
    }

    private static void requireSize(int size) throws IllegalArgumentException {
        requireWithin(size, 0, SIZES - 1);
    }

    private static void requireRoomFor(Store store, int pieces) throws IllegalStateException {
        if (store.wholeStock() + pieces > MOST_STOCK) {
            throw new IllegalStateException("the store has no room for so many pieces");
        }
    }

    private void requireSeasonOn() throws IllegalStateException {
        if (season.week >= season.weeks) {
            throw new IllegalStateException("the season is over");
        }
    }

    private Store storeOf(int store) throws IllegalArgumentException {
        requireWithin(store, 0, STORES - 1);
        return stores[store];
    }

    /** What all stores share: the weeks, the prices and the rules. */
    private static final class Season {
        private final int[] prices = new int[STEPS];
        private int weeks = FIRST_WEEKS;
        private int week;
        private int gap = FIRST_GAP;
        private int remnant;
        private int moving;
        private int taken;

        private Season() {
            for (int step = 0; step < STEPS; step++) {
                prices[step] = FIRST_PRICE;
            }
        }

        private void startAnew(int newWeeks) {
            weeks = newWeeks;
            week = 0;
            taken = 0;
        }

        private boolean keepsLadderDown(int step, int price) {
            boolean fitsBefore = step <= 0 || price <= prices[step - 1];
            boolean fitsNext = step >= LAST_STEP || price >= prices[step + 1];
            return fitsBefore && fitsNext;
        }
    }

    /** One store: its demands and stock, its step, and what it sold. */
    private static final class Store {
        private final int[] demands = new int[STEPS];
        private final int[] pieces = new int[SIZES];
        private int step;
        private int markedDownIn = NEVER;
        private int piecesSold;

        private void startAnew() {
            step = 0;
            markedDownIn = NEVER;
            piecesSold = 0;
        }

        private int waitFrom(int week, int gap) {
            return markedDownIn == NEVER ? 0 : Math.max(0, markedDownIn + gap - week);
        }

        private int wholeStock() {
            int whole = 0;
            for (int size = 0; size < SIZES; size++) {
                whole += pieces[size];
            }
            return whole;
        }

        private int sizesInStock() {
            int sizes = 0;
            for (int size = 0; size < SIZES; size++) {
                if (pieces[size] > 0) {
                    sizes++;
                }
            }
            return sizes;
        }

        private int salesAt(int someStep) {
            return Math.min(demands[someStep] * sizesInStock() / SIZES, wholeStock());
        }

        private int sellForAWeek() {
            // The sizes in stock are counted once, before the first piece of the week goes.
            int sales = salesAt(step);
            for (int piece = 0; piece < sales; piece++) {
                pieces[fullestSize()]--;
            }
            piecesSold += sales;
            return sales;
        }

        private int fullestSize() {
            int fullest = 0;
            for (int size = 1; size < SIZES; size++) {
                if (pieces[size] > pieces[fullest]) {
                    fullest = size;
                }
            }
            return fullest;
        }
    }

    /**
     * The plans of one store, told in two ways: backwards from the last week, and by trying all ladders. The rows are
     * made once and used again by every call, and hold nothing that a later call relies on.
     */
    private static final class Plans {
        private static final int LEFTS = MOST_STOCK + 1;
        private static final int MOST_LADDERS = 1000000;

        private final int[] prices = new int[STEPS];
        private final int[] demands = new int[STEPS];
        private final int[] worths = new int[MOST_WEEKS * STEPS * LEFTS];
        private final int[] ladder = new int[MOST_WEEKS_BY_ALL];
        private int firstWeek;
        private int freeWeek;
        private int endWeek;
        private int gap;
        private int remnant;
        private int ownStep;
        private int ownStock;
        private int mostLeft;

        private void lookAt(Season season, Store store) {
            System.arraycopy(season.prices, 0, prices, 0, STEPS);
            System.arraycopy(store.demands, 0, demands, 0, STEPS);
            firstWeek = season.week;
            endWeek = season.weeks;
            gap = season.gap;
            remnant = season.remnant;
            freeWeek = Math.min(endWeek, firstWeek + store.waitFrom(firstWeek, gap));
            ownStep = store.step;
            ownStock = store.wholeStock();
        }

        private int greatestWorth(int pieces) {
            tellWorths(pieces);
            return worthOfKeeping(firstWeek, ownStep, freeWeek - firstWeek, ownStock);
        }

        private int bestStepIn(int week) {
            tellWorths(MOST_STOCK);
            int step = ownStep;
            int left = ownStock;
            int free = freeWeek;
            for (int now = firstWeek; now <= week; now++) {
                if (now >= free) {
                    int next = lowestBestStep(now, step, left);
                    free = next > step ? now + gap : free;
                    step = next;
                }
                left -= Math.min(left, demands[step]);
            }
            return step;
        }

        /** Tells for each week, step before it and pieces left what is still to be had, if the gap has gone by. */
        private void tellWorths(int pieces) {
            mostLeft = pieces;
            for (int week = endWeek - 1; week >= freeWeek; week--) {
                for (int step = ownStep; step < STEPS; step++) {
                    for (int left = 0; left <= ownStock; left++) {
                        worths[placeOf(week, step, left)] = worthOfChoosing(week, step, left);
                    }
                }
            }
        }

        private static int placeOf(int week, int step, int left) {
            return (week * STEPS + step) * LEFTS + left;
        }

        private int worthOfChoosing(int week, int step, int left) {
            int greatest = NO_PLAN;
            for (int next = step; next < STEPS; next++) {
                greatest = Math.max(greatest, worthOfTaking(week, step, next, left));
            }
            return greatest;
        }

        private int lowestBestStep(int week, int step, int left) {
            int greatest = worthFrom(week, step, left);
            for (int next = step; next < STEPS; next++) {
                if (worthOfTaking(week, step, next, left) == greatest) {
                    return next;
                }
            }
            return step;
        }

        private int worthOfTaking(int week, int step, int next, int left) {
            // A step that was made higher stays for the whole gap, so these weeks are told at once.
            return worthOfKeeping(week, next, next > step ? gap : 1, left);
        }

        private int worthOfKeeping(int week, int step, int weeks, int left) {
            int kept = Math.min(weeks, endWeek - week);
            int sales = Math.min(left, kept * demands[step]);
            int rest = worthFrom(week + kept, step, left - sales);
            return rest == NO_PLAN ? NO_PLAN : sales * prices[step] + rest;
        }

        private int worthFrom(int week, int step, int left) {
            if (week < endWeek) {
                return worths[placeOf(week, step, left)];
            }
            return left > mostLeft ? NO_PLAN : left * remnant;
        }

        private int greatestWorthByAll() {
            int weeks = Math.min(endWeek - firstWeek, MOST_WEEKS_BY_ALL);
            for (int i = 0; i < weeks; i++) {
                ladder[i] = ownStep;
            }
            int greatest = NO_PLAN;
            boolean more = true;
            for (int tried = 0; more && tried < MOST_LADDERS; tried++) {
                greatest = Math.max(greatest, worthOfLadder(weeks));
                more = turnToNextLadder(weeks);
            }
            return greatest;
        }

        private int worthOfLadder(int weeks) {
            int before = ownStep;
            int left = ownStock;
            int free = freeWeek;
            int worth = 0;
            for (int i = 0; i < weeks; i++) {
                int step = ladder[i];
                if (step > before) {
                    if (firstWeek + i < free) {
                        return NO_PLAN;
                    }
                    free = firstWeek + i + gap;
                }
                int sales = Math.min(left, demands[step]);
                worth += sales * prices[step];
                left -= sales;
                before = step;
            }
            return worth + left * remnant;
        }

        /** Turns to the next ladder that never goes down, in the order of its steps; false if there is none. */
        private boolean turnToNextLadder(int weeks) {
            int last = weeks - 1;
            while (last >= 0 && ladder[last] == LAST_STEP) {
                last--;
            }
            if (last < 0) {
                return false;
            }
            int step = ladder[last] + 1;
            for (int i = last; i < weeks; i++) {
                ladder[i] = step;
            }
            return true;
        }
    }
}
