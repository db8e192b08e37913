/** Each sentence of the promises 17 to 20 that names a case at the edge, or beyond it, each at its test. */
public final class PlansEdgesTest {
    private static final Checks CHECKS = new Checks("PlansEdgesTest");

    public static void main(String[] args) {
        for (int store = 0; store < 3; store++) {
            emptyStore(store);
            fullStore(store);
            oneStoreAlone(store);
        }
        noSizeIsLacking();
        lastWeekHasOneStep();
        notBelowItsOwnStep();
        atMostWhatIsLeft();
        remnantPriceForEachPieceLeft();
        for (int gap = 1; gap <= 4; gap++) {
            gapSoFarIncluded(gap);
            gapWithinThePlan(gap);
            firstTimeNoneHaveToGoBy(gap);
        }
        gapAsItIsNow();
        stayingIsNoMarkdown();
        overIsTheRemnantPrice();
        byAllUpToSixWeeks();
        byAllIsTheSame();
        plannedFromThePresentWeekToTheLast();
        plannedIsTheLowerOfSeveral();
        plannedIsTheLowerOfSeveralAfterAMarkdown();
        for (int gap = 1; gap <= 4; gap++) {
            plannedWithThreeMarkdowns(gap);
        }
        plannedOnlyAsks();
        leavingFromNoneToSixty();
        leavingJustSoManyOrFewer();
        leavingIsPromisedAtACost();
        leavingKeepsTheGap();
        leavingWhenTheSeasonIsOver();
        the512thCall();
        CHECKS.end();
    }

    private static void due(String what, long want, long got) {
        CHECKS.due(what, want, got);
    }

    private static void duePlan(String what, MarkdownPlanner x, int store, int... steps) {
        for (int i = 0; i < steps.length; i++) {
            int week = x.week() + i;
            due(what + ", week " + week, steps[i], x.planned(store, week));
        }
    }

    /** The best worth by all ways that tell it; at most six weeks have to be left. */
    private static void dueBest(String what, MarkdownPlanner x, int store, int worth) {
        due(what, worth, x.best(store));
        due(what + ", by all", worth, x.bestByAll(store));
        due(what + ", any may be left", worth, x.bestLeaving(store, 60));
    }

    /** A planner of a season of some weeks in which store 0 has that many pieces. */
    private static MarkdownPlanner withStock(int weeks, int pieces, int... prices) {
        MarkdownPlanner x = Planners.withPrices(prices);
        x.begin(weeks);
        Planners.stock(x, 0, pieces);
        return x;
    }

    private static void emptyStore(int store) {
        MarkdownPlanner x = Planners.withPrices(1000, 1000, 1000, 1000, 1000);
        x.setRules(1, 1000, 100);
        Planners.demands(x, store, 0, 30, 30, 30, 30);
        x.begin(6);
        dueBest("17: an empty store", x, store, 0);
        duePlan("19: an empty store", x, store, 0, 0, 0, 0, 0, 0);
        due("20: an empty store leaves none", 0, x.bestLeaving(store, 0));
        x.markDown(store, 3);
        dueBest("17: an empty store, marked down", x, store, 0);
        duePlan("19: an empty store, marked down", x, store, 3, 3, 3, 3, 3, 3);
        Planners.runWeeks(x, 6);
        dueBest("17: an empty store when over", x, store, 0);
        due("20: an empty store when over", 0, x.bestLeaving(store, 0));
    }

    private static void fullStore(int store) {
        MarkdownPlanner x = Planners.withPrices(1000, 1000, 999, 0, 0);
        x.begin(2);
        Planners.stock(x, store, 20, 20, 20);
        x.setDemand(store, 0, 30);
        dueBest("17: a full store sells all", x, store, 60000);
        due("20: a full store leaves none", 60000, x.bestLeaving(store, 0));
        x.setDemand(store, 0, 29);
        dueBest("17: two are left", x, store, 58000);
        due("20: two are left", 58000, x.bestLeaving(store, 2));
        due("20: not one alone", -1, x.bestLeaving(store, 1));
        x.setDemand(store, 0, 0);
        x.setRules(1, 1000, 0);
        dueBest("17: a full store sells none", x, store, 60000);
        due("20: all 60 are left", 60000, x.bestLeaving(store, 60));
        due("20: 59 are not to be had", -1, x.bestLeaving(store, 59));
        due("17: in ten weeks too", 60000, x.begin(10) + x.best(store));
        due("20: in ten weeks too", -1, x.bestLeaving(store, 59));
    }

    /** "The plan for a store looks at its whole stock alone" */
    private static void oneStoreAlone(int store) {
        MarkdownPlanner x = new MarkdownPlanner();
        x.begin(3);
        for (int other = 0; other < 3; other++) {
            Planners.stock(x, other, 10, 10, 10);
            Planners.demands(x, other, 5, 5, 5, 5, 5);
        }
        x.setDemand(store, 0, 1);
        x.setDemand(store, 4, 7);
        x.markDown((store + 1) % 3, 2);
        dueBest("17: 7 in each of three weeks", x, store, 2100);
        duePlan("19: of this store", x, store, 4, 4, 4);
        dueBest("17: 5 in each of three weeks", x, (store + 1) % 3, 1500);
        duePlan("19: of another", x, (store + 1) % 3, 2, 2, 2);
        dueBest("17: 5 in each of three weeks", x, (store + 2) % 3, 1500);
        duePlan("19: of the third", x, (store + 2) % 3, 0, 0, 0);
    }

    /** "as if no size was ever lacking" */
    private static void noSizeIsLacking() {
        MarkdownPlanner x = withStock(1, 2, 100, 100, 100, 100, 100);
        x.setDemand(0, 0, 2);
        due("16: one size sells none", 0, x.wouldSell(0, 0));
        dueBest("17: one size, 2 sold", x, 0, 200);
        due("20: one size leaves none", 200, x.bestLeaving(0, 0));
        due("9: one size sells none", 0, x.run());
        MarkdownPlanner y = new MarkdownPlanner();
        y.begin(2);
        Planners.stock(y, 1, 3, 0, 7);
        y.setDemand(1, 0, 4);
        dueBest("17: two sizes, 4 and 4 sold", y, 1, 800);
        due("20: two sizes leave 2", 800, y.bestLeaving(1, 2));
        due("20: two sizes do not leave 1", -1, y.bestLeaving(1, 1));
    }

    /** "in each week from the present one to the last one it has a step": one week is left */
    private static void lastWeekHasOneStep() {
        MarkdownPlanner x = withStock(1, 20, 100, 80, 60, 40, 20);
        Planners.demands(x, 0, 1, 2, 3, 5, 9);
        dueBest("17: 5 at 40", x, 0, 200);
        duePlan("19: 5 at 40", x, 0, 3);
        x.begin(10);
        Planners.runWeeks(x, 9);
        // A week with stock in one size alone sells a third, rounded down: none of the demand of 1.
        due("11: nothing sold so far", 20, x.stock(0, 0));
        dueBest("17: 5 at 40 in the tenth week", x, 0, 200);
        duePlan("19: 5 at 40 in the tenth week", x, 0, 3);
        x.setDemand(0, 4, 10);
        dueBest("17: 10 at 20 is the same", x, 0, 200);
        duePlan("19: the lower step of two", x, 0, 3);
        x.setDemand(0, 4, 11);
        dueBest("17: 11 at 20 is more", x, 0, 220);
        duePlan("19: 11 at 20", x, 0, 4);
    }

    /** "not below the one before (in the present week not below its own)" */
    private static void notBelowItsOwnStep() {
        for (int own = 0; own < 5; own++) {
            MarkdownPlanner x = withStock(3, 40, 100, 80, 60, 40, 20);
            x.setRules(1, 0, 0);
            Planners.demands(x, 0, 5, 5, 5, 5, 5);
            if (own > 0) {
                x.markDown(0, own);
            }
            dueBest("17: 15 at its own step " + own, x, 0, 15 * (100 - 20 * own));
            duePlan("19: its own step " + own, x, 0, own, own, own);
        }
        MarkdownPlanner y = withStock(2, 8, 100, 80, 60, 40, 20);
        y.setRules(1, 0, 0);
        Planners.demands(y, 0, 4, 0, 0, 0, 7);
        dueBest("17: 4 at 100 twice", y, 0, 800);
        y.setDemand(0, 0, 1);
        dueBest("17: 1 at 100, then 7 at 20", y, 0, 240);
        duePlan("19: 1 at 100, then 7 at 20", y, 0, 0, 4);
    }

    /** "it sells its demand at the step, but at most what is left" */
    private static void atMostWhatIsLeft() {
        for (int stock = 19; stock <= 21; stock++) {
            MarkdownPlanner x = withStock(2, stock, 100, 100, 100, 100, 100);
            Planners.demands(x, 0, 10, 10, 10, 10, 10);
            dueBest("17: 20 of " + stock, x, 0, 100 * Math.min(20, stock));
            due("20: left of " + stock, 100 * Math.min(20, stock), x.bestLeaving(0, Math.max(0, stock - 20)));
        }
        MarkdownPlanner y = withStock(6, 1, 1000, 100, 10, 1, 0);
        Planners.demands(y, 0, 0, 30, 30, 30, 30);
        dueBest("17: one piece, sold once", y, 0, 100);
        duePlan("19: at the end", y, 0, 0, 0, 0, 0, 0, 1);
        due("20: one piece, none left", 100, y.bestLeaving(0, 0));
    }

    /** "The worth of a plan is what it brings, and the remnant price for each piece that is left." */
    private static void remnantPriceForEachPieceLeft() {
        MarkdownPlanner x = withStock(1, 10, 100, 80, 60, 40, 20);
        Planners.demands(x, 0, 1, 2, 4, 7, 10);
        int[] remnants = {0, 19, 20, 39, 40, 41, 60, 61, 1000};
        int[] worths = {280, 354, 360, 474, 480, 488, 640, 649, 9100};
        int[] steps = {3, 2, 2, 2, 1, 1, 0, 0, 0};
        for (int i = 0; i < remnants.length; i++) {
            x.setRules(1, remnants[i], 0);
            dueBest("17: remnant price " + remnants[i], x, 0, worths[i]);
            duePlan("19: remnant price " + remnants[i], x, 0, steps[i]);
        }
    }

    /** "as many weeks as the gap tells have gone by since it was made higher last, what was so far included" */
    private static void gapSoFarIncluded(int gap) {
        for (int run = 0; run <= 4; run++) {
            MarkdownPlanner x = withStock(6 + run, 60, 100, 90, 80, 70, 10);
            x.setRules(gap, 0, 0);
            Planners.demands(x, 0, 0, 0, 0, 0, 10);
            x.markDown(0, 1);
            for (int week = 0; week < run; week++) {
                due("9: sells none", 0, x.run());
            }
            int wait = Math.max(0, gap - run);
            String what = "gap " + gap + ", run " + run;
            dueBest("17: 10 in each free week, " + what, x, 0, 100 * (6 - wait));
            for (int week = 0; week < 6; week++) {
                due("19: " + what + ", week " + week, week < wait ? 1 : 4, x.planned(0, x.week() + week));
            }
            due("20: " + what, 100 * (6 - wait), x.bestLeaving(0, 10 * wait));
            due("20: fewer, " + what, wait == 0 ? 600 : -1, x.bestLeaving(0, Math.max(0, 10 * wait - 1)));
        }
    }

    /** "where it is higher than the one before, as many weeks as the gap tells have gone by" */
    private static void gapWithinThePlan(int gap) {
        for (int weeks = 1; weeks <= 6; weeks++) {
            MarkdownPlanner x = withStock(weeks, 60, 100, 90, 80, 70, 10);
            x.setRules(gap, 0, 0);
            Planners.demands(x, 0, 0, 2, 0, 0, 20);
            // 2 at 90, or 20 at 10: as late as can be to step 4, since 180 is less than 200.
            int late = 200 * Math.min(weeks, 3);
            int both = 0;
            for (int first = gap; first < weeks; first++) {
                int dear = 2 * first;
                int cheap = Math.min(60 - dear, 20 * (weeks - first));
                both = Math.max(both, 90 * dear + 10 * cheap);
            }
            int dearAlone = 180 * weeks;
            int worth = Math.max(late, Math.max(both, dearAlone));
            dueBest("17: gap " + gap + ", weeks " + weeks, x, 0, worth);
        }
        MarkdownPlanner y = withStock(gap + 1, 30 + gap, 100, 90, 80, 70, 10);
        y.setRules(gap, 0, 0);
        Planners.demands(y, 0, 0, 1, 0, 0, 30);
        dueBest("17: just room for two markdowns, gap " + gap, y, 0, 90 * gap + 300);
        due("19: the first week, gap " + gap, 1, y.planned(0, 0));
        due("19: the week before the last, gap " + gap, 1, y.planned(0, gap - 1));
        due("19: the last week, gap " + gap, 4, y.planned(0, gap));
        y.begin(gap);
        Planners.demands(y, 0, 0, 1, 0, 0, 6);
        dueBest("17: no room for two, gap " + gap, y, 0, 90 * gap);
        duePlan("19: no room for two, gap " + gap, y, 0, 1);
    }

    /** "(the first time in the season, none have to)" */
    private static void firstTimeNoneHaveToGoBy(int gap) {
        MarkdownPlanner x = withStock(6, 60, 100, 90, 80, 70, 10);
        x.setRules(gap, 0, 0);
        Planners.demands(x, 0, 0, 0, 0, 0, 10);
        dueBest("17: at once, gap " + gap, x, 0, 600);
        duePlan("19: at once, gap " + gap, x, 0, 4, 4, 4, 4, 4, 4);
        x.markDown(0, 1);
        dueBest("17: not at once any more, gap " + gap, x, 0, 100 * (6 - gap));
        x.begin(6);
        dueBest("17: at once in a new season, gap " + gap, x, 0, 600);
        x.markDown(0, 4);
        dueBest("17: marked down as planned, gap " + gap, x, 0, 600);
        duePlan("19: marked down as planned, gap " + gap, x, 0, 4, 4, 4, 4, 4, 4);
    }

    /** "as many weeks as the gap tells (as it is now)" */
    private static void gapAsItIsNow() {
        MarkdownPlanner x = withStock(6, 60, 100, 90, 80, 70, 10);
        Planners.demands(x, 0, 0, 0, 0, 0, 10);
        x.setRules(1, 0, 0);
        x.markDown(0, 1);
        for (int gap = 4; gap >= 1; gap--) {
            x.setRules(gap, 0, 0);
            dueBest("17: gap " + gap + " now", x, 0, 100 * (6 - gap));
            due("19: waits, gap " + gap, 1, x.planned(0, gap - 1));
            due("19: waits no more, gap " + gap, 4, x.planned(0, gap));
        }
    }

    /** A week at the step of the one before is no markdown, and begins no gap. */
    private static void stayingIsNoMarkdown() {
        MarkdownPlanner x = withStock(6, 35, 100, 90, 80, 70, 10);
        x.setRules(4, 0, 0);
        Planners.demands(x, 0, 1, 0, 0, 0, 30);
        dueBest("17: 1 at 100 five times, 30 at 10", x, 0, 800);
        duePlan("19: stays for five weeks", x, 0, 0, 0, 0, 0, 0, 4);
        Planners.runWeeks(x, 5);
        dueBest("17: the last week", x, 0, 300);
        duePlan("19: the last week", x, 0, 4);
    }

    /** "the remnant price for the whole stock, if the season is over" */
    private static void overIsTheRemnantPrice() {
        for (int weeks : new int[] {1, 6, 8, 10}) {
            MarkdownPlanner x = withStock(weeks, 60, 1000, 1000, 1000, 1000, 1000);
            Planners.runWeeks(x, weeks);
            Planners.demands(x, 0, 30, 30, 30, 30, 30);
            dueBest("17: over, no remnant price", x, 0, 0);
            x.setRules(1, 1, 0);
            dueBest("17: over, a remnant price of 1", x, 0, 60);
            x.setRules(1, 1000, 0);
            dueBest("17: over, a remnant price of 1000", x, 0, 60000);
            dueBest("17: over, an empty store", x, 1, 0);
            x.put(1, 2, 1);
            dueBest("17: over, one piece", x, 1, 1000);
            for (int week : new int[] {-1, 0, weeks - 1, weeks, weeks + 1}) {
                CHECKS.argument("19: over, week " + week, () -> x.planned(0, week));
            }
            x.begin(1);
            dueBest("17: begun anew, 30 at 1000 and 30 left", x, 0, 60000);
            duePlan("19: begun anew", x, 0, 0);
        }
        MarkdownPlanner y = withStock(1, 20, 100, 100, 100, 100, 100);
        y.setRules(1, 10, 0);
        y.setDemand(0, 0, 6);
        dueBest("17: 6 at 100, 14 at 10", y, 0, 740);
        y.run();
        dueBest("17: over, 18 are left", y, 0, 180);
    }

    /** "Throws IllegalStateException if more than 6 weeks are left" */
    private static void byAllUpToSixWeeks() {
        for (int weeks = 1; weeks <= 10; weeks++) {
            MarkdownPlanner x = withStock(weeks, 60, 100, 100, 100, 100, 100);
            x.setRules(1, 1, 0);
            for (int week = 0; week <= weeks; week++) {
                String what = "18: week " + week + " of " + weeks;
                if (weeks - week > 6) {
                    CHECKS.state(what, () -> x.bestByAll(0));
                    CHECKS.argument(what, () -> x.bestByAll(3));
                    CHECKS.argument(what, () -> x.bestByAll(-1));
                } else {
                    due(what, 60, x.bestByAll(0));
                }
                due(what + ", not by all", 60, x.best(0));
                if (week < weeks) {
                    x.run();
                }
            }
        }
    }

    /** "Returns the same, told by trying all ladders." */
    private static void byAllIsTheSame() {
        MarkdownPlanner x = withStock(6, 40, 100, 70, 50, 30, 10);
        Planners.demands(x, 0, 1, 2, 4, 8, 30);
        for (int gap = 1; gap <= 4; gap++) {
            for (int remnant = 0; remnant <= 100; remnant += 20) {
                x.setRules(gap, remnant, 0);
                due("18: gap " + gap + ", remnant price " + remnant, x.best(0), x.bestByAll(0));
            }
        }
        MarkdownPlanner y = withStock(6, 21, 6, 5, 4, 3, 2);
        y.setRules(1, 0, 0);
        Planners.demands(y, 0, 1, 2, 3, 4, 5);
        // No week brings more than 12: 3 at 4, or 4 at 3.
        dueBest("18: 12 in each week", y, 0, 72);
        duePlan("19: 3 at 4 in each week", y, 0, 2, 2, 2, 2, 2, 2);
        due("20: three weeks of 4 at 3 leave none", 72, y.bestLeaving(0, 0));
        due("20: one week of 4 at 3 leaves 2", 72, y.bestLeaving(0, 2));
    }

    /** "week: the present week to the last one" */
    private static void plannedFromThePresentWeekToTheLast() {
        for (int weeks : new int[] {1, 2, 8, 10}) {
            MarkdownPlanner x = withStock(weeks, 40, 100, 100, 100, 100, 100);
            for (int now = 0; now < weeks; now++) {
                int present = now;
                due("19: the present week " + now, 0, x.planned(0, now));
                due("19: the last week of " + weeks, 0, x.planned(0, weeks - 1));
                CHECKS.argument("19: before the present week " + now, () -> x.planned(0, present - 1));
                CHECKS.argument("19: behind the last week of " + weeks, () -> x.planned(0, weeks));
                CHECKS.argument("19: no store -1", () -> x.planned(-1, present));
                CHECKS.argument("19: no store 3", () -> x.planned(3, present));
                x.run();
            }
            CHECKS.argument("19: over, no present week", () -> x.planned(0, weeks));
            CHECKS.argument("19: over, no last week", () -> x.planned(0, weeks - 1));
        }
    }

    /** "of several the one with the lower step in the first week in which they differ" */
    private static void plannedIsTheLowerOfSeveral() {
        MarkdownPlanner x = withStock(4, 10, 100, 100, 100, 100, 100);
        Planners.demands(x, 0, 5, 5, 5, 5, 5);
        duePlan("19: all steps bring the same", x, 0, 0, 0, 0, 0);
        Planners.demands(x, 0, 0, 5, 5, 5, 5);
        duePlan("19: two weeks are enough", x, 0, 0, 0, 1, 1);
        Planners.demands(x, 0, 0, 0, 0, 5, 10);
        duePlan("19: the last week is enough", x, 0, 0, 0, 0, 4);
        Planners.demands(x, 0, 0, 0, 4, 5, 9);
        duePlan("19: 9 and 1, 5 and 5, or 4, 4 and 2: the late ones", x, 0, 0, 0, 3, 3);
        x.setRules(1, 0, 0);
        duePlan("19: 4 and 9 is lower in week 2", x, 0, 0, 0, 2, 4);
        x.setRules(1, 100, 0);
        duePlan("19: left is worth the same", x, 0, 0, 0, 0, 0);
        x.setRules(1, 101, 0);
        duePlan("19: left is worth more", x, 0, 0, 0, 0, 0);
        x.setRules(1, 99, 0);
        duePlan("19: left is worth less", x, 0, 0, 0, 2, 4);
        MarkdownPlanner y = withStock(3, 6, 100, 50, 50, 50, 50);
        Planners.demands(y, 0, 1, 6, 6, 6, 6);
        duePlan("19: the lowest of the same price", y, 0, 0, 0, 1);
        y.setPrice(4, 49);
        y.setDemand(0, 4, 30);
        duePlan("19: not a lower price", y, 0, 0, 0, 1);
    }

    /** The same, where the plan itself marks down first: to stay a week more comes ahead of the next markdown. */
    private static void plannedIsTheLowerOfSeveralAfterAMarkdown() {
        MarkdownPlanner x = withStock(4, 37, 100, 100, 100, 100, 100);
        Planners.demands(x, 0, 0, 9, 0, 0, 10);
        // All 37 are sold by 9, 9, 9, 10 and by 9, 9, 10, 9; not by 9, 9, 9, 9, and not from the second week on.
        dueBest("17: all 37 are sold", x, 0, 3700);
        duePlan("19: stays as long as can be", x, 0, 1, 1, 1, 4);
        x.setDemand(0, 1, 8);
        dueBest("17: all 37 are sold by 10 in each week alone", x, 0, 3700);
        duePlan("19: begins at once", x, 0, 4, 4, 4, 4);
    }

    /** Each of the first two steps is kept for just the gap; with a longer one there is no such plan. */
    private static void plannedWithThreeMarkdowns(int gap) {
        // 2 at 100 are 36 less than 4 at 59, and 2 more at 20 in the last week are 40: only pieces beyond 30 are spent.
        MarkdownPlanner x = withStock(2 * gap + 1, 30 + 6 * gap, 100, 100, 59, 59, 20);
        x.setRules(gap, 0, 0);
        Planners.demands(x, 0, 0, 2, 4, 0, 30);
        int worth = gap * 200 + gap * 236 + 600;
        due("17: three markdowns, gap " + gap, worth, x.best(0));
        due("20: three markdowns leave none, gap " + gap, worth, x.bestLeaving(0, 0));
        for (int week = 0; week <= 2 * gap; week++) {
            int step = week < gap ? 1 : week < 2 * gap ? 2 : 4;
            due("19: three markdowns, gap " + gap + ", week " + week, step, x.planned(0, week));
        }
        for (int longer = gap + 1; longer <= 4; longer++) {
            x.setRules(longer, 0, 0);
            due("17: no three markdowns, gap " + longer, 1, x.best(0) < worth ? 1 : 0);
        }
    }

    private static void plannedOnlyAsks() {
        MarkdownPlanner x = withStock(3, 30, 100, 80, 60, 40, 20);
        Planners.demands(x, 0, 1, 2, 3, 4, 30);
        for (int i = 0; i < 3; i++) {
            duePlan("19: asked again", x, 0, 1, 1, 4);
            due("17: asked again", 840, x.best(0));
            due("18: asked again", 840, x.bestByAll(0));
            due("20: asked again, none left", 840, x.bestLeaving(0, 0));
        }
        due("12: the step stays", 0, x.step(0));
        due("11: the stock stays", 30, x.stock(0, 0));
        due("13: no wait", 0, x.weeksToWait(0));
        due("15: nothing taken", 0, x.taken());
        due("10: the week stays", 0, x.week());
    }

    /** "left: 0 to 60" */
    private static void leavingFromNoneToSixty() {
        MarkdownPlanner x = withStock(8, 60, 100, 100, 100, 100, 100);
        for (int store = 0; store < 3; store++) {
            int of = store;
            due("20: 60 may be left, store " + store, 0, x.bestLeaving(store, 60));
            due("20: none may be left, store " + store, store == 0 ? -1 : 0, x.bestLeaving(store, 0));
            for (int wrong : new int[] {Integer.MIN_VALUE, -1, 61, Integer.MAX_VALUE}) {
                CHECKS.argument("20: left " + wrong, () -> x.bestLeaving(of, wrong));
            }
        }
        CHECKS.argument("20: no store -1", () -> x.bestLeaving(-1, 60));
        CHECKS.argument("20: no store 3", () -> x.bestLeaving(3, 60));
        x.setDemand(0, 0, 30);
        due("20: all 60 are sold", 6000, x.bestLeaving(0, 0));
    }

    /** "plans of a store that leave no more than some pieces", "-1 if no plan leaves so few" */
    private static void leavingJustSoManyOrFewer() {
        for (int sold = 0; sold <= 30; sold++) {
            MarkdownPlanner x = withStock(1, 31, 0, 0, 0, 0, 0);
            x.setDemand(0, 4, sold);
            int left = 31 - sold;
            due("20: just so many, " + left, 0, x.bestLeaving(0, left));
            due("20: one fewer, " + left, -1, x.bestLeaving(0, left - 1));
            due("20: none, " + left, -1, x.bestLeaving(0, 0));
            due("20: more may be left, " + left, 0, x.bestLeaving(0, left + 1));
            due("20: worth nothing is not -1, " + left, 0, x.bestLeaving(0, 60));
        }
        MarkdownPlanner y = withStock(10, 60, 1, 1, 1, 1, 1);
        y.setDemand(0, 0, 5);
        due("20: 50 in ten weeks", 50, y.bestLeaving(0, 10));
        due("20: not 51", -1, y.bestLeaving(0, 9));
        y.setDemand(0, 4, 6);
        due("20: 60 in ten weeks", 60, y.bestLeaving(0, 0));
    }

    /** A promise of how much is sold may ask for another plan than the best one. */
    private static void leavingIsPromisedAtACost() {
        MarkdownPlanner x = withStock(1, 20, 100, 80, 60, 40, 0);
        Planners.demands(x, 0, 3, 6, 9, 12, 15);
        int[] left = {60, 20, 17, 16, 14, 13, 11, 10, 8, 7, 5, 4, 0};
        int[] worths = {540, 540, 540, 540, 540, 540, 540, 480, 480, 0, 0, -1, -1};
        for (int i = 0; i < left.length; i++) {
            due("20: left " + left[i], worths[i], x.bestLeaving(0, left[i]));
        }
        x.setRules(2, 1000, 0);
        int[] kept = {17300, 17300, 17300, 14480, 14480, 11540, 11540, 8480, 8480, 5000, 5000, -1, -1};
        for (int i = 0; i < left.length; i++) {
            due("20: dear remnants, left " + left[i], kept[i], x.bestLeaving(0, left[i]));
        }
        due("17: no promise", 17300, x.best(0));
    }

    private static void leavingKeepsTheGap() {
        for (int gap = 1; gap <= 4; gap++) {
            MarkdownPlanner x = withStock(5, 40, 100, 90, 80, 70, 10);
            x.setRules(gap, 0, 0);
            Planners.demands(x, 0, 0, 0, 0, 0, 8);
            x.markDown(0, 1);
            int sold = 8 * (5 - gap);
            due("20: gap " + gap, 10 * sold, x.bestLeaving(0, 40 - sold));
            due("20: no plan, gap " + gap, -1, x.bestLeaving(0, 40 - sold - 1));
            x.run();
            due("20: a week later, gap " + gap, 10 * sold, x.bestLeaving(0, 40 - sold));
            due("20: no plan a week later, gap " + gap, -1, x.bestLeaving(0, 40 - sold - 1));
        }
    }

    /** Behind the last week nothing is sold any more: all that is there is left. */
    private static void leavingWhenTheSeasonIsOver() {
        MarkdownPlanner x = withStock(1, 20, 100, 100, 100, 100, 100);
        x.setRules(1, 7, 0);
        x.run();
        x.setDemand(0, 0, 30);
        due("20: over, 60 may be left", 140, x.bestLeaving(0, 60));
        due("20: over, 20 may be left", 140, x.bestLeaving(0, 20));
        due("20: over, 19 may be left", -1, x.bestLeaving(0, 19));
        due("20: over, none may be left", -1, x.bestLeaving(0, 0));
        due("20: over, an empty store", 0, x.bestLeaving(1, 0));
        CHECKS.argument("20: over, left 61", () -> x.bestLeaving(0, 61));
        CHECKS.argument("20: over, left -1", () -> x.bestLeaving(0, -1));
    }

    /** "An object is used for at most 512 calls after it has been made" */
    private static void the512thCall() {
        MarkdownPlanner x = new MarkdownPlanner();
        x.setDemand(0, 4, 30);
        x.put(0, 0, 30);
        for (int call = 2; call < 511; call++) {
            due("call " + (call + 1), 4, x.planned(0, 7));
        }
        due("call 512", 3000, x.best(0));
    }
}
