/** Each sentence of the promises 1 to 5 that names a case at the edge, or beyond it, each at its test. */
public final class SettingUpEdgesTest {
    private static final Checks CHECKS = new Checks("SettingUpEdgesTest");

    public static void main(String[] args) {
        for (int store = 0; store < 3; store++) {
            newObjectHasNothing(store);
            demandFromNoneToThirty(store);
        }
        newObjectHasEightWeeks();
        newObjectHasPricesOfAHundred();
        seasonOfOneWeek();
        seasonOfTenWeeks();
        beginTellsTheWeeksRun();
        beginSetsStepsAndWaitsAsAtFirst();
        beginForgetsSalesAndMoves();
        beginKeepsTheRest();
        priceOfTheFirstStep();
        priceOfTheLastStep();
        for (int step = 1; step < 5; step++) {
            priceIsNotAboveTheOneBefore(step);
        }
        for (int step = 0; step < 4; step++) {
            priceIsNotBelowTheNextOne(step);
        }
        priceWhileTheSeasonRuns();
        demandWhileTheSeasonRuns();
        for (int gap = 1; gap <= 4; gap++) {
            gapOf(gap);
        }
        remnantFromNoneToAThousand();
        movingFromNoneToAHundred();
        CHECKS.end();
    }

    private static void due(String what, long want, long got) {
        CHECKS.due(what, want, got);
    }

    /** "a demand for each step .. 0 at first", "a stock of each size, 0 at first, and a step, 0 at first" */
    private static void newObjectHasNothing(int store) {
        MarkdownPlanner x = new MarkdownPlanner();
        for (int size = 0; size < 3; size++) {
            due("1: no stock at first", 0, x.stock(store, size));
        }
        due("1: step 0 at first", 0, x.step(store));
        due("1: nothing sold at first", 0, x.sold(store));
        due("1: no wait at first", 0, x.weeksToWait(store));
        Planners.stock(x, store, 20, 20, 20);
        for (int step = 0; step < 5; step++) {
            due("1: no demand at first, step " + step, 0, x.wouldSell(store, step));
        }
        due("1: a full store sells none at first", 0, x.run());
        due("1: no plan sells at first, no remnant price", 0, x.best(store));
        due("1: all 60 are left at first", -1, x.bestLeaving(store, 59));
    }

    /** "Begins in the week 0 of a season of 8 weeks" */
    private static void newObjectHasEightWeeks() {
        MarkdownPlanner x = new MarkdownPlanner();
        due("1: week 0", 0, x.week());
        due("1: nothing taken", 0, x.taken());
        due("1: week 7 is planned", 0, x.planned(0, 7));
        CHECKS.argument("1: no week 8", () -> x.planned(0, 8));
        for (int week = 0; week < 8; week++) {
            due("1: week", week, x.week());
            due("1: eight runs", 0, x.run());
        }
        CHECKS.state("1: no ninth run", x::run);
        due("1: over", 8, x.week());
    }

    /** "Each step has a price, 100 at first for all" */
    private static void newObjectHasPricesOfAHundred() {
        MarkdownPlanner x = new MarkdownPlanner();
        for (int step = 0; step < 5; step++) {
            due("1: price of step " + step, 100, x.setPrice(step, 100));
        }
        MarkdownPlanner y = new MarkdownPlanner();
        for (int step = 1; step < 5; step++) {
            due("1: marked down to " + step, 100, y.markDown(0, step));
            Planners.runWeeks(y, 2);
        }
    }

    /** "weeks: 1 to 10": the least */
    private static void seasonOfOneWeek() {
        MarkdownPlanner x = new MarkdownPlanner();
        x.begin(1);
        due("2: one week, the first one", 0, x.planned(2, 0));
        CHECKS.argument("2: one week, no second one", () -> x.planned(2, 1));
        due("2: the one week runs", 0, x.run());
        due("2: over after one", 1, x.week());
        CHECKS.state("2: no second run", x::run);
        CHECKS.argument("2: no season of no week", () -> x.begin(0));
        CHECKS.argument("2: no season of less", () -> x.begin(-1));
        due("2: still over", 1, x.week());
        due("2: the one week was run", 1, x.begin(1));
    }

    /** "weeks: 1 to 10": the most */
    private static void seasonOfTenWeeks() {
        MarkdownPlanner x = new MarkdownPlanner();
        x.begin(10);
        due("2: ten weeks, the last one", 0, x.planned(2, 9));
        CHECKS.argument("2: ten weeks, no eleventh", () -> x.planned(2, 10));
        Planners.runWeeks(x, 9);
        due("2: the tenth week runs", 0, x.run());
        due("2: over after ten", 10, x.week());
        CHECKS.state("2: no eleventh run", x::run);
        CHECKS.argument("2: no season of eleven", () -> x.begin(11));
        due("2: still over", 10, x.week());
        due("2: all ten were run", 10, x.begin(10));
    }

    /** "Returns how many weeks were run in the one before." */
    private static void beginTellsTheWeeksRun() {
        MarkdownPlanner x = new MarkdownPlanner();
        due("2: none run in the first season", 0, x.begin(10));
        for (int weeks = 0; weeks <= 10; weeks++) {
            Planners.runWeeks(x, weeks);
            due("2: weeks run", weeks, x.begin(10));
        }
        due("2: none run between", 0, x.begin(2));
        Planners.runWeeks(x, 2);
        CHECKS.state("2: over", x::run);
        CHECKS.state("2: over", x::run);
        due("2: a refused run is none", 2, x.begin(3));
    }

    /** "Begins a season: all steps and weeks are as at first" */
    private static void beginSetsStepsAndWaitsAsAtFirst() {
        MarkdownPlanner x = new MarkdownPlanner();
        x.setRules(4, 0, 0);
        x.begin(2);
        x.run();
        for (int store = 0; store < 3; store++) {
            x.markDown(store, 4 - store);
        }
        due("2: waits before", 4, x.weeksToWait(0));
        x.begin(8);
        due("2: week 0", 0, x.week());
        for (int store = 0; store < 3; store++) {
            due("2: step of " + store, 0, x.step(store));
            due("2: wait of " + store, 0, x.weeksToWait(store));
            due("2: plan of " + store, 0, x.planned(store, 0));
        }
        due("2: the first time in the season", 100, x.markDown(0, 1));
        due("2: waits from now on", 4, x.weeksToWait(0));
        x.run();
        x.begin(1);
        due("2: begun again in the midst", 0, x.week());
        due("2: no wait", 0, x.weeksToWait(0));
        x.setDemand(0, 4, 30);
        x.put(0, 0, 40);
        due("2: a plan need not wait either", 4, x.planned(0, 0));
        due("2: and sells", 3000, x.best(0));
    }

    /** "nothing is sold, taken, or paid for moving" */
    private static void beginForgetsSalesAndMoves() {
        MarkdownPlanner x = new MarkdownPlanner();
        x.setRules(2, 0, 100);
        for (int store = 0; store < 3; store++) {
            x.put(store, 0, 10);
            x.setDemand(store, 0, 6);
        }
        x.run();
        due("2: sold before", 2, x.sold(2));
        due("2: taken before", 600, x.taken());
        x.begin(8);
        for (int store = 0; store < 3; store++) {
            due("2: nothing sold by " + store, 0, x.sold(store));
        }
        due("2: nothing taken", 0, x.taken());
        x.move(0, 1, 0, 5);
        due("2: paid before", -500, x.taken());
        x.begin(8);
        due("2: nothing paid", 0, x.taken());
    }

    /** "prices, demands, gap, stock and the other prices stay" */
    private static void beginKeepsTheRest() {
        MarkdownPlanner x = Planners.withPrices(1000, 500, 400, 300, 0);
        x.setRules(4, 1000, 100);
        for (int store = 0; store < 3; store++) {
            Planners.stock(x, store, 5 + store, 10, 15);
            Planners.demands(x, store, 0, 7, 15, 22, 30);
        }
        x.markDown(0, 4);
        x.begin(10);
        int[] prices = {1000, 500, 400, 300, 0};
        int[] demands = {0, 7, 15, 22, 30};
        for (int step = 0; step < 5; step++) {
            due("2: price stays", prices[step], x.setPrice(step, prices[step]));
            for (int store = 0; store < 3; store++) {
                due("2: demand stays", demands[step], x.setDemand(store, step, demands[step]));
            }
        }
        for (int store = 0; store < 3; store++) {
            due("2: stock stays", 5 + store, x.stock(store, 0));
            due("2: stock stays", 10, x.stock(store, 1));
            due("2: stock stays", 15, x.stock(store, 2));
        }
        x.markDown(2, 1);
        due("2: gap stays", 4, x.weeksToWait(2));
        due("2: moving stays", 100, x.move(0, 1, 0, 1));
        x.begin(1);
        x.run();
        due("2: remnant price stays", 29 * 1000, x.best(0));
    }

    /** "price: 0 to 1000": the first step has none before it */
    private static void priceOfTheFirstStep() {
        MarkdownPlanner x = new MarkdownPlanner();
        due("3: up to 1000", 100, x.setPrice(0, 1000));
        CHECKS.argument("3: not above 1000", () -> x.setPrice(0, 1001));
        CHECKS.argument("3: not below 0", () -> x.setPrice(0, -1));
        due("3: was 1000", 1000, x.setPrice(0, 100));
        for (int step = 4; step > 0; step--) {
            x.setPrice(step, 0);
        }
        due("3: the first down to 0, as the next one", 100, x.setPrice(0, 0));
        due("3: was 0", 0, x.setPrice(0, 1000));
        for (int step = 1; step < 5; step++) {
            due("3: all up to 1000", 0, x.setPrice(step, 1000));
        }
        CHECKS.state("3: the first below the others", () -> x.setPrice(0, 999));
    }

    /** "price: 0 to 1000": the last step has none behind it */
    private static void priceOfTheLastStep() {
        MarkdownPlanner x = new MarkdownPlanner();
        due("3: down to 0", 100, x.setPrice(4, 0));
        CHECKS.argument("3: not below 0", () -> x.setPrice(4, -1));
        CHECKS.argument("3: not above 1000", () -> x.setPrice(4, 1001));
        CHECKS.state("3: not above the one before", () -> x.setPrice(4, 1000));
        due("3: was 0", 0, x.setPrice(4, 100));
        due("3: as the one before", 100, x.setPrice(4, 100));
        x.setDemand(0, 0, 3);
        x.setDemand(0, 4, 3);
        x.put(0, 0, 20);
        due("3: brings 100", 100, x.run());
        x.setPrice(4, 0);
        due("3: marked down to nothing", 0, x.markDown(0, 4));
        due("3: brings nothing", 0, x.run());
        due("3: is sold though", 2, x.sold(0));
    }

    /** "Throws IllegalStateException if it would be above that of the step before" */
    private static void priceIsNotAboveTheOneBefore(int step) {
        MarkdownPlanner x = Planners.withLadder();
        int before = 100 - 20 * (step - 1);
        int own = before - 20;
        CHECKS.state("3: above the one before, step " + step, () -> x.setPrice(step, before + 1));
        CHECKS.state("3: far above it, step " + step, () -> x.setPrice(step, 1000));
        due("3: nothing changed, step " + step, own, x.setPrice(step, own));
        due("3: as the one before, step " + step, own, x.setPrice(step, before));
        due("3: set, step " + step, before, x.setPrice(step, before - 1));
        due("3: the one before is as it was", before, x.setPrice(step - 1, before));
    }

    /** "or below that of the next one" */
    private static void priceIsNotBelowTheNextOne(int step) {
        MarkdownPlanner x = Planners.withLadder();
        int next = 100 - 20 * (step + 1);
        int own = next + 20;
        CHECKS.state("3: below the next one, step " + step, () -> x.setPrice(step, next - 1));
        CHECKS.state("3: far below it, step " + step, () -> x.setPrice(step, 0));
        due("3: nothing changed, step " + step, own, x.setPrice(step, own));
        due("3: as the next one, step " + step, own, x.setPrice(step, next));
        due("3: set, step " + step, next, x.setPrice(step, next + 1));
        due("3: the next one is as it was", next, x.setPrice(step + 1, next));
    }

    /** "Each piece sold brings the price of the step": as it is when the week is run; also when over. */
    private static void priceWhileTheSeasonRuns() {
        MarkdownPlanner x = new MarkdownPlanner();
        x.begin(2);
        x.put(0, 0, 10);
        x.setDemand(0, 0, 3);
        due("3: at 100", 100, x.run());
        x.setPrice(0, 1000);
        due("3: at 1000", 1000, x.run());
        due("3: what was taken stays", 1100, x.taken());
        due("3: when the season is over", 1000, x.setPrice(0, 200));
        due("3: was set", 200, x.setPrice(0, 100));
        due("3: what was taken still stays", 1100, x.taken());
    }

    /** "pieces: 0 to 30", "Returns the demand before." */
    private static void demandFromNoneToThirty(int store) {
        MarkdownPlanner x = new MarkdownPlanner();
        Planners.stock(x, store, 20, 20, 20);
        for (int step = 0; step < 5; step++) {
            int at = step;
            due("4: none before", 0, x.setDemand(store, at, 30));
            CHECKS.argument("4: not 31", () -> x.setDemand(store, at, 31));
            CHECKS.argument("4: not -1", () -> x.setDemand(store, at, -1));
            due("4: would sell 30", 30, x.wouldSell(store, at));
            due("4: was 30", 30, x.setDemand(store, at, 0));
            due("4: would sell none", 0, x.wouldSell(store, at));
            due("4: was 0", 0, x.setDemand(store, at, 1));
            due("4: would sell one", 1, x.wouldSell(store, at));
            due("4: was 1", 1, x.setDemand(store, at, 10 + at));
        }
        for (int step = 0; step < 5; step++) {
            due("4: of this step alone", 10 + step, x.setDemand(store, step, 0));
            due("4: of this store alone", 0, x.setDemand((store + 1) % 3, step, 0));
            due("4: of this store alone", 0, x.setDemand((store + 2) % 3, step, 0));
        }
    }

    /** Demands hold from the next week on; no call is refused by the season. */
    private static void demandWhileTheSeasonRuns() {
        MarkdownPlanner x = new MarkdownPlanner();
        x.begin(2);
        Planners.stock(x, 0, 20, 20, 20);
        x.setDemand(0, 0, 30);
        due("4: sells 30", 3000, x.run());
        x.setDemand(0, 0, 0);
        due("4: sells none", 0, x.run());
        due("4: sold stays", 30, x.sold(0));
        due("4: when the season is over", 0, x.setDemand(0, 0, 7));
        due("4: was set", 7, x.setDemand(0, 0, 7));
    }

    /** "gap: 1 to 4": as many weeks have to be run between */
    private static void gapOf(int gap) {
        MarkdownPlanner x = new MarkdownPlanner();
        x.setRules(gap, 0, 0);
        CHECKS.argument("5: gap 0", () -> x.setRules(0, 0, 0));
        CHECKS.argument("5: gap 5", () -> x.setRules(5, 0, 0));
        x.markDown(1, 1);
        for (int run = 0; run < gap; run++) {
            due("5: waits with gap " + gap, gap - run, x.weeksToWait(1));
            CHECKS.state("5: too early with gap " + gap, () -> x.markDown(1, 2));
            x.run();
        }
        due("5: waits no more with gap " + gap, 0, x.weeksToWait(1));
        due("5: marked down with gap " + gap, 100, x.markDown(1, 2));
    }

    /** "remnant: 0 to 1000" */
    private static void remnantFromNoneToAThousand() {
        MarkdownPlanner x = new MarkdownPlanner();
        Planners.stock(x, 0, 20, 20, 20);
        due("5: no remnant price at first", 0, x.best(0));
        x.setRules(2, 1000, 0);
        CHECKS.argument("5: remnant 1001", () -> x.setRules(2, 1001, 0));
        CHECKS.argument("5: remnant -1", () -> x.setRules(2, -1, 0));
        due("5: remnant price 1000", 60000, x.best(0));
        Planners.runToTheEnd(x);
        due("5: remnant price 1000 when over", 60000, x.best(0));
        x.setRules(2, 1, 0);
        due("5: set when over", 60, x.best(0));
        x.setRules(2, 0, 0);
        due("5: remnant price 0", 0, x.best(0));
    }

    /** "what it costs to move a piece (0 at first)", "moving: 0 to 100" */
    private static void movingFromNoneToAHundred() {
        MarkdownPlanner x = new MarkdownPlanner();
        x.put(0, 0, 40);
        due("5: moving is free at first", 0, x.move(0, 1, 0, 40));
        x.setRules(2, 0, 100);
        CHECKS.argument("5: moving 101", () -> x.setRules(2, 0, 101));
        CHECKS.argument("5: moving -1", () -> x.setRules(2, 0, -1));
        due("5: moving costs 100 a piece", 4000, x.move(1, 0, 0, 40));
        due("5: paid", -4000, x.taken());
        x.setRules(2, 0, 0);
        due("5: moving is free", 0, x.move(0, 1, 0, 40));
        due("5: paid as before", -4000, x.taken());
    }
}
