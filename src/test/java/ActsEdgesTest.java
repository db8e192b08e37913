/** Each sentence of the promises 6 to 9 that names a case at the edge, or beyond it, each at its test. */
public final class ActsEdgesTest {
    private static final Checks CHECKS = new Checks("ActsEdgesTest");

    public static void main(String[] args) {
        for (int store = 0; store < 3; store++) {
            putFromOneToForty(store);
            putFillsAStoreToSixty(store);
            markDownTheFirstTime(store);
            moveAllOrNotSoMany(store, (store + 1) % 3);
            moveAllOrNotSoMany(store, (store + 2) % 3);
            moveFillsAStoreToSixty(store, (store + 1) % 3);
            moveFillsAStoreToSixty(store, (store + 2) % 3);
            moveToItself(store);
        }
        putMakesUseOfRoomThatIsFree();
        putWhenTheSeasonIsOver();
        markDownToAStepAbove();
        markDownNeverFromTheLastStep();
        for (int gap = 1; gap <= 4; gap++) {
            markDownOnceTheGapHasGoneBy(gap);
        }
        markDownWithTheGapAsItIsNow();
        markDownInTheLastWeek();
        moveInTheLastWeek();
        moveCosts();
        runOfEmptyStores();
        runOfFullStores();
        runRoundsDown();
        runSellsAtMostTheWholeStock();
        runTakesTheGreatestThenTheLowest();
        runCountsTheSizesAhead();
        runBringsThePriceOfTheStep();
        runInTheLastWeek();
        CHECKS.end();
    }

    private static void due(String what, long want, long got) {
        CHECKS.due(what, want, got);
    }

    private static void dueStock(String what, MarkdownPlanner x, int store, int... want) {
        for (int size = 0; size < 3; size++) {
            due(what + ", size " + size, want[size], x.stock(store, size));
        }
    }

    /** "pieces: 1 to 40", "Returns the stock of this size then." */
    private static void putFromOneToForty(int store) {
        for (int size = 0; size < 3; size++) {
            MarkdownPlanner x = new MarkdownPlanner();
            int at = size;
            CHECKS.argument("6: none", () -> x.put(store, at, 0));
            CHECKS.argument("6: less than none", () -> x.put(store, at, -1));
            CHECKS.argument("6: 41", () -> x.put(store, at, 41));
            due("6: nothing put", 0, x.stock(store, at));
            due("6: one", 1, x.put(store, at, 1));
            due("6: one more", 2, x.put(store, at, 1));
            due("6: forty more", 42, x.put(store, at, 40));
            due("6: of this size alone", 0, x.stock(store, (at + 1) % 3) + x.stock(store, (at + 2) % 3));
            due("6: of this store alone", 0, x.stock((store + 1) % 3, at) + x.stock((store + 2) % 3, at));
        }
    }

    /** "Throws IllegalStateException if the whole stock of the store would be above 60" */
    private static void putFillsAStoreToSixty(int store) {
        MarkdownPlanner x = new MarkdownPlanner();
        Planners.stock(x, (store + 1) % 3, 20, 20, 20);
        x.put(store, 0, 40);
        CHECKS.state("6: 61 of one size", () -> x.put(store, 0, 21));
        CHECKS.state("6: 61 of two sizes", () -> x.put(store, 1, 21));
        CHECKS.state("6: 80", () -> x.put(store, 2, 40));
        dueStock("6: nothing put", x, store, 40, 0, 0);
        due("6: 59", 19, x.put(store, 1, 19));
        CHECKS.state("6: 61 of three sizes", () -> x.put(store, 2, 2));
        due("6: 60 of three sizes", 1, x.put(store, 2, 1));
        for (int size = 0; size < 3; size++) {
            int at = size;
            CHECKS.state("6: full, size " + size, () -> x.put(store, at, 1));
        }
        dueStock("6: full", x, store, 40, 19, 1);
        MarkdownPlanner y = new MarkdownPlanner();
        Planners.stock(y, store, 40, 20, 0);
        y.move(store, (store + 1) % 3, 0, 40);
        due("6: what went away makes room", 40, y.put(store, 2, 40));
        CHECKS.state("6: full again", () -> y.put(store, 0, 1));
        MarkdownPlanner z = new MarkdownPlanner();
        z.put(store, 2, 40);
        due("6: 60 of one size", 60, z.put(store, 2, 20));
        CHECKS.state("6: 61", () -> z.put(store, 2, 1));
    }

    private static void putMakesUseOfRoomThatIsFree() {
        MarkdownPlanner x = new MarkdownPlanner();
        Planners.stock(x, 0, 20, 20, 20);
        x.setDemand(0, 0, 1);
        CHECKS.state("6: full", () -> x.put(0, 0, 1));
        x.run();
        CHECKS.state("6: one was sold, not two", () -> x.put(0, 1, 2));
        due("6: one was sold", 21, x.put(0, 1, 1));
        CHECKS.state("6: full again", () -> x.put(0, 1, 1));
        x.move(0, 2, 2, 20);
        due("6: twenty were moved away", 39, x.put(0, 0, 20));
        CHECKS.state("6: full once more", () -> x.put(0, 0, 1));
    }

    /** No sentence refuses put when the season is over. */
    private static void putWhenTheSeasonIsOver() {
        MarkdownPlanner x = new MarkdownPlanner();
        x.setRules(2, 7, 0);
        Planners.runToTheEnd(x);
        due("6: over, an empty store", 40, x.put(0, 0, 40));
        due("6: over, full", 20, x.put(0, 1, 20));
        CHECKS.state("6: over, above full", () -> x.put(0, 2, 1));
        CHECKS.argument("6: over, none", () -> x.put(1, 2, 0));
        due("6: over, worth", 420, x.best(0));
    }

    /** "The step of a store can be made higher, once the gap .. has gone by ..; the first time, none." */
    private static void markDownTheFirstTime(int store) {
        for (int week = 0; week < 8; week++) {
            MarkdownPlanner x = Planners.withLadder();
            x.setRules(4, 0, 0);
            Planners.runWeeks(x, week);
            x.markDown((store + 1) % 3, 1);
            due("7: the first time, in week " + week, 20, x.markDown(store, 4));
            due("7: another store", 0, x.step((store + 2) % 3));
            due("7: step", 4, x.step(store));
        }
    }

    /** "Throws IllegalStateException if .. step is not above that of the store", "Returns the price then." */
    private static void markDownToAStepAbove() {
        MarkdownPlanner x = Planners.withLadder();
        x.begin(10);
        for (int step = 0; step < 5; step++) {
            for (int notAbove = 0; notAbove <= step; notAbove++) {
                int to = notAbove;
                CHECKS.state("7: from " + step + " to " + to, () -> x.markDown(0, to));
            }
            due("7: refused, step stays", step, x.step(0));
            if (step < 4) {
                due("7: refused, no wait", 0, x.weeksToWait(0));
                due("7: one above", 100 - 20 * (step + 1), x.markDown(0, step + 1));
                Planners.runWeeks(x, 2);
            }
        }
        MarkdownPlanner y = Planners.withPrices(1000, 500, 500, 0, 0);
        due("7: price 500", 500, y.markDown(0, 1));
        Planners.runWeeks(y, 2);
        due("7: the same price is a markdown too", 500, y.markDown(0, 2));
        due("7: and waits", 2, y.weeksToWait(0));
        due("7: several steps at once", 0, y.markDown(1, 4));
        y.setPrice(3, 77);
        due("7: the price as it is now", 77, y.markDown(2, 3));
    }

    private static void markDownNeverFromTheLastStep() {
        MarkdownPlanner x = new MarkdownPlanner();
        x.setRules(1, 0, 0);
        x.markDown(0, 4);
        Planners.runWeeks(x, 3);
        due("7: the gap has gone by", 0, x.weeksToWait(0));
        for (int step = 0; step < 5; step++) {
            int to = step;
            CHECKS.state("7: from the last to " + to, () -> x.markDown(0, to));
        }
        CHECKS.argument("7: no step 5", () -> x.markDown(0, 5));
        due("7: the last", 4, x.step(0));
    }

    /** "as many weeks as the gap tells .. have to be run between", "or the gap has not gone by" */
    private static void markDownOnceTheGapHasGoneBy(int gap) {
        MarkdownPlanner x = new MarkdownPlanner();
        x.begin(10);
        x.setRules(gap, 0, 0);
        x.run();
        x.markDown(2, 1);
        for (int step = 2; step <= 3; step++) {
            int to = step;
            for (int run = 0; run < gap; run++) {
                CHECKS.state("7: gap " + gap + ", run between " + run, () -> x.markDown(2, to));
                x.run();
            }
            due("7: gap " + gap + " has gone by", 100, x.markDown(2, to));
            due("7: step", to, x.step(2));
        }
        CHECKS.state("7: since it was made higher last, gap " + gap, () -> x.markDown(2, 4));
    }

    /** "as many weeks as the gap tells (as it is now)" */
    private static void markDownWithTheGapAsItIsNow() {
        for (int gap = 1; gap <= 4; gap++) {
            for (int run = 0; run <= 5; run++) {
                MarkdownPlanner x = new MarkdownPlanner();
                x.setRules(5 - gap, 0, 0);
                x.markDown(1, 1);
                Planners.runWeeks(x, run);
                x.setRules(gap, 0, 0);
                String what = "7: gap " + gap + " now, run " + run;
                due(what + ", wait", Math.max(0, gap - run), x.weeksToWait(1));
                if (run < gap) {
                    CHECKS.state(what, () -> x.markDown(1, 2));
                    due(what + ", step", 1, x.step(1));
                } else {
                    due(what, 100, x.markDown(1, 2));
                }
            }
        }
    }

    /** "Throws IllegalStateException if the season is over": the last week, and behind it */
    private static void markDownInTheLastWeek() {
        for (int weeks : new int[] {1, 8, 10}) {
            MarkdownPlanner x = new MarkdownPlanner();
            x.begin(weeks);
            Planners.runWeeks(x, weeks - 1);
            due("7: in the last week of " + weeks, 100, x.markDown(0, 1));
            x.run();
            CHECKS.state("7: over after " + weeks, () -> x.markDown(1, 1));
            CHECKS.state("7: over, from a higher step", () -> x.markDown(0, 2));
            due("7: over, step", 0, x.step(1));
            due("7: over, no wait", 0, x.weeksToWait(1));
            x.begin(weeks);
            due("7: begun anew", 100, x.markDown(1, 1));
        }
    }

    /** "Throws IllegalStateException if .. there are not so many pieces" */
    private static void moveAllOrNotSoMany(int from, int to) {
        for (int size = 0; size < 3; size++) {
            MarkdownPlanner x = new MarkdownPlanner();
            int at = size;
            String what = "8: " + from + " to " + to + ", size " + size;
            CHECKS.state(what + ", an empty store", () -> x.move(from, to, at, 1));
            Planners.stock(x, from, 15, 15, 15);
            CHECKS.argument(what + ", none", () -> x.move(from, to, at, 0));
            CHECKS.argument(what + ", less than none", () -> x.move(from, to, at, -1));
            CHECKS.argument(what + ", 41", () -> x.move(from, to, at, 41));
            CHECKS.state(what + ", one too many", () -> x.move(from, to, at, 16));
            CHECKS.state(what + ", 40 of all sizes", () -> x.move(from, to, at, 40));
            due(what + ", nothing given", 15, x.stock(from, at));
            due(what + ", nothing got", 0, x.stock(to, at));
            due(what + ", one", 0, x.move(from, to, at, 1));
            due(what + ", all the others", 0, x.move(from, to, at, 14));
            due(what + ", given", 0, x.stock(from, at));
            due(what + ", got", 15, x.stock(to, at));
            due(what + ", of this size alone", 30, x.stock(from, (at + 1) % 3) + x.stock(from, (at + 2) % 3));
            CHECKS.state(what + ", none is left", () -> x.move(from, to, at, 1));
        }
    }

    /** "or the whole stock of the other store would be above 60" */
    private static void moveFillsAStoreToSixty(int from, int to) {
        MarkdownPlanner x = new MarkdownPlanner();
        String what = "8: " + from + " to " + to;
        Planners.stock(x, from, 20, 20, 20);
        due(what + ", an empty store", 0, x.move(from, to, 0, 20));
        due(what + ", more", 0, x.move(from, to, 1, 19));
        x.put(to, 2, 20);
        CHECKS.state(what + ", 61", () -> x.move(from, to, 2, 2));
        CHECKS.state(what + ", 79", () -> x.move(from, to, 2, 20));
        dueStock(what + ", nothing given", x, from, 0, 1, 20);
        dueStock(what + ", nothing got", x, to, 20, 19, 20);
        due(what + ", 60", 0, x.move(from, to, 1, 1));
        CHECKS.state(what + ", full", () -> x.move(from, to, 2, 1));
        dueStock(what + ", given", x, from, 0, 0, 20);
        dueStock(what + ", full", x, to, 20, 20, 20);
        due(what + ", a full store gives", 0, x.move(to, from, 2, 20));
        MarkdownPlanner y = new MarkdownPlanner();
        y.put(from, 0, 40);
        y.put(to, 2, 20);
        due(what + ", 40 to 20", 0, y.move(from, to, 0, 40));
        y.put(from, 0, 1);
        CHECKS.state(what + ", one more", () -> y.move(from, to, 0, 1));
    }

    /** "Throws IllegalArgumentException if .. from is to" */
    private static void moveToItself(int store) {
        MarkdownPlanner x = new MarkdownPlanner();
        CHECKS.argument("8: an empty store to itself", () -> x.move(store, store, 0, 1));
        Planners.stock(x, store, 10, 10, 10);
        for (int size = 0; size < 3; size++) {
            int at = size;
            CHECKS.argument("8: to itself", () -> x.move(store, store, at, 1));
            CHECKS.argument("8: to itself, all", () -> x.move(store, store, at, 10));
            CHECKS.argument("8: to itself, too many", () -> x.move(store, store, at, 11));
        }
        dueStock("8: nothing moved", x, store, 10, 10, 10);
        Planners.runToTheEnd(x);
        CHECKS.argument("8: to itself when over", () -> x.move(store, store, 0, 1));
    }

    /** "Throws IllegalStateException if the season is over": the last week, and behind it */
    private static void moveInTheLastWeek() {
        for (int weeks : new int[] {1, 8, 10}) {
            MarkdownPlanner x = new MarkdownPlanner();
            x.setRules(2, 0, 3);
            x.begin(weeks);
            x.put(0, 0, 10);
            Planners.runWeeks(x, weeks - 1);
            due("8: in the last week of " + weeks, 6, x.move(0, 1, 0, 2));
            x.run();
            CHECKS.state("8: over after " + weeks, () -> x.move(0, 1, 0, 1));
            due("8: over, nothing given", 8, x.stock(0, 0));
            due("8: over, nothing got", 2, x.stock(1, 0));
            due("8: over, nothing paid", -6, x.taken());
            x.begin(weeks);
            due("8: begun anew", 3, x.move(0, 1, 0, 1));
        }
    }

    /** "Returns what it costs." */
    private static void moveCosts() {
        MarkdownPlanner x = new MarkdownPlanner();
        x.put(0, 0, 40);
        due("8: costs nothing at first", 0, x.move(0, 1, 0, 40));
        x.setRules(2, 500, 1);
        due("8: one piece at 1", 1, x.move(1, 0, 0, 1));
        due("8: 39 pieces at 1", 39, x.move(1, 0, 0, 39));
        x.setRules(2, 500, 100);
        due("8: one piece at 100", 100, x.move(0, 2, 0, 1));
        due("8: 39 pieces at 100", 3900, x.move(0, 2, 0, 39));
        due("8: paid in all", -4040, x.taken());
    }

    /** "with k for how many sizes it has some stock of": none */
    private static void runOfEmptyStores() {
        MarkdownPlanner x = new MarkdownPlanner();
        for (int store = 0; store < 3; store++) {
            Planners.demands(x, store, 30, 30, 30, 30, 30);
        }
        due("9: empty stores take nothing", 0, x.run());
        due("9: the week goes by", 1, x.week());
        due("9: nothing taken", 0, x.taken());
        for (int store = 0; store < 3; store++) {
            due("9: nothing sold", 0, x.sold(store));
            dueStock("9: still empty", x, store, 0, 0, 0);
        }
        x.put(1, 1, 3);
        due("9: one store of three", 300, x.run());
        due("9: it is empty then", 0, x.stock(1, 1));
        due("9: nothing more", 0, x.run());
    }

    private static void runOfFullStores() {
        MarkdownPlanner x = Planners.withPrices(1000, 0, 0, 0, 0);
        for (int store = 0; store < 3; store++) {
            Planners.stock(x, store, 20, 20, 20);
            x.setDemand(store, 0, 30);
        }
        due("9: three full stores", 90000, x.run());
        for (int store = 0; store < 3; store++) {
            due("9: 30 sold", 30, x.sold(store));
            dueStock("9: ten of each", x, store, 10, 10, 10);
        }
        due("9: the other half", 90000, x.run());
        due("9: none is left", 0, x.run());
        due("9: taken", 180000, x.taken());
        MarkdownPlanner y = new MarkdownPlanner();
        y.setDemand(0, 0, 30);
        y.put(0, 1, 40);
        y.put(0, 1, 20);
        due("9: a full store of one size", 1000, y.run());
        due("9: 50 are left", 50, y.stock(0, 1));
    }

    /** "its demand at its step times k, divided by 3, rounded down" */
    private static void runRoundsDown() {
        int[] demands = {0, 1, 2, 3, 4, 5, 6, 28, 29, 30};
        int[][] sales = {{0, 0, 0, 1, 1, 1, 2, 9, 9, 10}, {0, 0, 1, 2, 2, 3, 4, 18, 19, 20}, demands};
        for (int sizes = 1; sizes <= 3; sizes++) {
            for (int i = 0; i < demands.length; i++) {
                MarkdownPlanner x = new MarkdownPlanner();
                for (int size = 0; size < sizes; size++) {
                    x.put(2, 2 - size, 20);
                }
                x.setDemand(2, 0, demands[i]);
                int want = sales[sizes - 1][i];
                due("9: would sell", want, x.wouldSell(2, 0));
                due("9: sells, sizes " + sizes + ", demand " + demands[i], 100L * want, x.run());
                due("9: sold", want, x.sold(2));
            }
        }
    }

    /** "it sells that, but at most its whole stock" */
    private static void runSellsAtMostTheWholeStock() {
        for (int stock = 9; stock <= 11; stock++) {
            MarkdownPlanner x = new MarkdownPlanner();
            x.put(0, 0, stock);
            x.setDemand(0, 0, 30);
            due("9: 10 of " + stock, 100L * Math.min(10, stock), x.run());
            due("9: left of " + stock, Math.max(0, stock - 10), x.stock(0, 0));
        }
        MarkdownPlanner y = new MarkdownPlanner();
        Planners.stock(y, 0, 1, 1, 1);
        y.setDemand(0, 0, 4);
        due("9: 3 of 3, demand 4", 300, y.run());
        dueStock("9: none is left", y, 0, 0, 0, 0);
        due("9: sold", 3, y.sold(0));
    }

    /** "each piece is of the size with the greatest stock by then, of several the lowest one" */
    private static void runTakesTheGreatestThenTheLowest() {
        int[][] before = {{1, 1, 1}, {2, 1, 1}, {1, 2, 1}, {1, 1, 2}, {2, 2, 1}, {1, 2, 2}, {2, 1, 2}, {3, 1, 2},
                {1, 3, 2}, {2, 1, 3}, {1, 2, 3}, {5, 1, 1}, {1, 1, 5}};
        int[][] afterOne = {{0, 1, 1}, {1, 1, 1}, {1, 1, 1}, {1, 1, 1}, {1, 2, 1}, {1, 1, 2}, {1, 1, 2}, {2, 1, 2},
                {1, 2, 2}, {2, 1, 2}, {1, 2, 2}, {4, 1, 1}, {1, 1, 4}};
        int[][] afterTwo = {{0, 0, 1}, {0, 1, 1}, {0, 1, 1}, {0, 1, 1}, {1, 1, 1}, {1, 1, 1}, {1, 1, 1}, {1, 1, 2},
                {1, 1, 2}, {1, 1, 2}, {1, 1, 2}, {3, 1, 1}, {1, 1, 3}};
        for (int i = 0; i < before.length; i++) {
            MarkdownPlanner x = new MarkdownPlanner();
            Planners.stock(x, 0, before[i]);
            x.setDemand(0, 0, 1);
            x.run();
            dueStock("9: one of the pieces of row " + i, x, 0, afterOne[i]);
            MarkdownPlanner y = new MarkdownPlanner();
            Planners.stock(y, 1, before[i]);
            y.setDemand(1, 0, 2);
            y.run();
            dueStock("9: two of the pieces of row " + i, y, 1, afterTwo[i]);
        }
    }

    /** k is told for the week; a size that goes out in it is lacking from the next week on. */
    private static void runCountsTheSizesAhead() {
        MarkdownPlanner x = new MarkdownPlanner();
        Planners.stock(x, 0, 2, 2, 1);
        x.setDemand(0, 0, 4);
        due("9: three sizes ahead of the week", 400, x.run());
        dueStock("9: one size is left", x, 0, 0, 0, 1);
        due("9: 4 times 1 divided by 3", 100, x.run());
        due("9: none is left", 0, x.run());
        MarkdownPlanner y = new MarkdownPlanner();
        y.put(0, 0, 5);
        y.setDemand(0, 0, 3);
        due("9: one size", 100, y.run());
        y.put(0, 1, 1);
        due("9: two sizes", 200, y.run());
        dueStock("9: two sizes", y, 0, 2, 1, 0);
    }

    /** "Each piece sold brings the price of the step." */
    private static void runBringsThePriceOfTheStep() {
        MarkdownPlanner x = Planners.withLadder();
        for (int store = 0; store < 3; store++) {
            Planners.demands(x, store, 3, 6, 9, 12, 15);
            x.put(store, store, 40);
        }
        x.markDown(1, 2);
        x.markDown(2, 4);
        due("9: 1 at 100, 3 at 60, 5 at 20", 380, x.run());
        x.markDown(0, 1);
        due("9: 2 at 80, 3 at 60, 5 at 20", 440, x.run());
        due("9: taken", 820, x.taken());
        due("9: sold by 0", 3, x.sold(0));
        due("9: sold by 1", 6, x.sold(1));
        due("9: sold by 2", 10, x.sold(2));
    }

    /** "Throws IllegalStateException if the season is over" */
    private static void runInTheLastWeek() {
        for (int weeks = 1; weeks <= 10; weeks++) {
            MarkdownPlanner x = new MarkdownPlanner();
            x.begin(weeks);
            Planners.stock(x, 0, 20, 20, 20);
            x.setDemand(0, 0, 1);
            Planners.runWeeks(x, weeks - 1);
            due("9: the last week of " + weeks, 100, x.run());
            CHECKS.state("9: over after " + weeks, x::run);
            due("9: over, week", weeks, x.week());
            due("9: over, taken", 100L * weeks, x.taken());
            due("9: over, sold", weeks, x.sold(0));
            due("9: over, stock", 60 - weeks, x.stock(0, 0) + x.stock(0, 1) + x.stock(0, 2));
            x.begin(1);
            due("9: begun anew", 100, x.run());
        }
    }
}
