/** Each sentence of the promises 10 to 16 that names a case at the edge, or beyond it, each at its test. */
public final class AnswersEdgesTest {
    private static final Checks CHECKS = new Checks("AnswersEdgesTest");

    public static void main(String[] args) {
        for (int weeks = 1; weeks <= 10; weeks++) {
            weekFromTheFirstToOver(weeks);
        }
        stockOfTheFirstAndTheLast();
        stockEmptyAndFull();
        stepOfTheFirstAndTheLast();
        for (int gap = 1; gap <= 4; gap++) {
            waitFromTheGapToNone(gap);
            waitChangesWithTheGap(gap);
        }
        waitTheFirstTime();
        soldFromNoneToAll();
        takenBelowNothing();
        takenFromNoneToTheMost();
        wouldSellWithNoSizeToThree();
        wouldSellAtMostTheWholeStock();
        wouldSellOnlyAsks();
        answersWhenTheSeasonIsOver();
        CHECKS.end();
    }

    private static void due(String what, long want, long got) {
        CHECKS.due(what, want, got);
    }

    /** "Returns the present week; how many weeks the season has, if it is over." */
    private static void weekFromTheFirstToOver(int weeks) {
        MarkdownPlanner x = new MarkdownPlanner();
        x.begin(weeks);
        for (int week = 0; week < weeks; week++) {
            due("10: week of " + weeks, week, x.week());
            x.markDown(week % 3, 1 + week / 3);
            due("10: only run changes it", week, x.week());
            x.run();
        }
        due("10: over", weeks, x.week());
        CHECKS.state("10: over", x::run);
        due("10: still over", weeks, x.week());
        CHECKS.argument("10: no such season", () -> x.begin(11));
        due("10: over as before", weeks, x.week());
        x.begin(11 - weeks);
        due("10: the first week of the next one", 0, x.week());
    }

    /** "Stores are 0 to 2, sizes 0 to 2" */
    private static void stockOfTheFirstAndTheLast() {
        MarkdownPlanner x = new MarkdownPlanner();
        x.put(0, 0, 11);
        x.put(0, 2, 12);
        x.put(2, 0, 13);
        x.put(2, 2, 14);
        due("11: first of the first", 11, x.stock(0, 0));
        due("11: last of the first", 12, x.stock(0, 2));
        due("11: first of the last", 13, x.stock(2, 0));
        due("11: last of the last", 14, x.stock(2, 2));
        due("11: none in between", 0, x.stock(1, 0) + x.stock(1, 1) + x.stock(1, 2) + x.stock(0, 1) + x.stock(2, 1));
        for (int wrong : new int[] {-1, 3}) {
            CHECKS.argument("11: store " + wrong, () -> x.stock(wrong, 0));
            CHECKS.argument("11: size " + wrong, () -> x.stock(2, wrong));
            CHECKS.argument("11: both " + wrong, () -> x.stock(wrong, wrong));
        }
    }

    private static void stockEmptyAndFull() {
        MarkdownPlanner x = new MarkdownPlanner();
        due("11: empty", 0, x.stock(1, 1));
        x.put(1, 1, 40);
        x.put(1, 1, 20);
        due("11: full", 60, x.stock(1, 1));
        x.setDemand(1, 0, 30);
        Planners.runWeeks(x, 6);
        due("11: empty again", 0, x.stock(1, 1));
        x.run();
        due("11: never below", 0, x.stock(1, 1));
    }

    /** "price steps 0 to 4", "a step, 0 at first" */
    private static void stepOfTheFirstAndTheLast() {
        for (int store = 0; store < 3; store++) {
            MarkdownPlanner x = new MarkdownPlanner();
            due("12: at first", 0, x.step(store));
            x.markDown(store, 4);
            due("12: the last", 4, x.step(store));
            due("12: of another", 0, x.step((store + 1) % 3));
            due("12: of another", 0, x.step((store + 2) % 3));
            for (int wrong : new int[] {-1, 3}) {
                CHECKS.argument("12: store " + wrong, () -> x.step(wrong));
            }
        }
    }

    /** "Returns how many weeks have to be run before the step of a store can be made higher." */
    private static void waitFromTheGapToNone(int gap) {
        for (int store = 0; store < 3; store++) {
            MarkdownPlanner x = new MarkdownPlanner();
            x.setRules(gap, 0, 0);
            x.run();
            x.markDown(store, 1);
            for (int run = 0; run <= gap + 2; run++) {
                int want = run < gap ? gap - run : 0;
                due("13: gap " + gap + ", run " + run, want, x.weeksToWait(store));
                due("13: of another", 0, x.weeksToWait((store + 1) % 3));
                due("13: of another", 0, x.weeksToWait((store + 2) % 3));
                x.run();
            }
            for (int wrong : new int[] {-1, 3}) {
                CHECKS.argument("13: store " + wrong, () -> x.weeksToWait(wrong));
            }
        }
        MarkdownPlanner y = new MarkdownPlanner();
        y.setRules(gap, 0, 0);
        y.markDown(0, 1);
        Planners.runWeeks(y, gap);
        y.markDown(0, 2);
        due("13: since it was made higher last", gap, y.weeksToWait(0));
        CHECKS.state("13: refused", () -> y.markDown(0, 3));
        y.run();
        due("13: a refused markdown is none", gap - 1, y.weeksToWait(0));
    }

    /** "as many weeks as the gap tells (as it is now)" */
    private static void waitChangesWithTheGap(int gap) {
        MarkdownPlanner x = new MarkdownPlanner();
        x.setRules(gap, 0, 0);
        x.markDown(1, 2);
        for (int run = 0; run <= 5; run++) {
            for (int now = 1; now <= 4; now++) {
                x.setRules(now, 0, 0);
                due("13: gap " + now + " now, run " + run, Math.max(0, now - run), x.weeksToWait(1));
            }
            x.run();
        }
    }

    /** "the first time, none" */
    private static void waitTheFirstTime() {
        MarkdownPlanner x = new MarkdownPlanner();
        x.setRules(4, 0, 0);
        for (int week = 0; week < 8; week++) {
            due("13: none so far, week " + week, 0, x.weeksToWait(2));
            x.run();
        }
        due("13: none in the whole season", 0, x.weeksToWait(2));
    }

    /** "Returns how many pieces a store sold in this season." */
    private static void soldFromNoneToAll() {
        for (int store = 0; store < 3; store++) {
            MarkdownPlanner x = new MarkdownPlanner();
            due("14: none", 0, x.sold(store));
            Planners.stock(x, store, 20, 20, 20);
            due("14: put is not sold", 0, x.sold(store));
            x.setDemand(store, 0, 30);
            x.run();
            due("14: 30", 30, x.sold(store));
            x.run();
            due("14: all 60", 60, x.sold(store));
            x.run();
            due("14: no more than there were", 60, x.sold(store));
            due("14: another", 0, x.sold((store + 1) % 3));
            due("14: another", 0, x.sold((store + 2) % 3));
            x.put(store, 0, 3);
            x.run();
            due("14: more in the same season", 63, x.sold(store));
            x.begin(1);
            due("14: none in the next one", 0, x.sold(store));
            for (int wrong : new int[] {-1, 3}) {
                CHECKS.argument("14: store " + wrong, () -> x.sold(wrong));
            }
        }
    }

    /** "less all costs of moving" */
    private static void takenBelowNothing() {
        MarkdownPlanner x = new MarkdownPlanner();
        due("15: nothing", 0, x.taken());
        x.setRules(2, 1000, 100);
        x.put(0, 0, 40);
        x.move(0, 1, 0, 40);
        due("15: below nothing", -4000, x.taken());
        x.move(1, 0, 0, 40);
        due("15: moving back costs too", -8000, x.taken());
        CHECKS.state("15: refused", () -> x.move(1, 0, 0, 1));
        due("15: a refused move costs nothing", -8000, x.taken());
        x.setDemand(0, 0, 30);
        due("15: taken in the week", 1000, x.run());
        due("15: less the costs", -7000, x.taken());
        x.setRules(2, 0, 0);
        due("15: paid is paid", -7000, x.taken());
        x.begin(8);
        due("15: nothing in the next season", 0, x.taken());
    }

    /** "Returns what all stores took in this season": what is left is not taken */
    private static void takenFromNoneToTheMost() {
        MarkdownPlanner x = Planners.withPrices(1000, 1000, 1000, 1000, 0);
        x.setRules(1, 1000, 0);
        x.begin(10);
        for (int store = 0; store < 3; store++) {
            Planners.demands(x, store, 30, 30, 30, 30, 30);
        }
        for (int week = 0; week < 10; week++) {
            for (int store = 0; store < 3; store++) {
                Planners.stock(x, store, 10, 10, 10);
            }
            due("15: taken so far", 90000L * week, x.taken());
            due("15: most in a week", 90000, x.run());
        }
        due("15: most in a season", 900000, x.taken());
        x.begin(2);
        Planners.stock(x, 0, 10, 10, 10);
        x.markDown(0, 4);
        due("15: at the price 0", 0, x.run());
        due("15: nothing", 0, x.taken());
        Planners.stock(x, 1, 20, 20, 20);
        x.setDemand(1, 0, 0);
        x.run();
        due("15: what is left is not taken", 0, x.taken());
    }

    /** "its demand at its step times k, divided by 3, rounded down", told for any step */
    private static void wouldSellWithNoSizeToThree() {
        for (int store = 0; store < 3; store++) {
            MarkdownPlanner x = new MarkdownPlanner();
            int of = store;
            int[] demands = {0, 1, 2, 29, 30};
            int[][] want = {{0, 0, 0, 0, 0}, {0, 0, 0, 9, 10}, {0, 0, 1, 19, 20}, {0, 1, 2, 29, 30}};
            Planners.demands(x, store, demands);
            for (int sizes = 0; sizes <= 3; sizes++) {
                for (int step = 0; step < 5; step++) {
                    due("16: sizes " + sizes + ", step " + step, want[sizes][step], x.wouldSell(store, step));
                    due("16: an empty store", 0, x.wouldSell((store + 1) % 3, step));
                }
                if (sizes < 3) {
                    x.put(store, (store + sizes) % 3, 20);
                }
            }
            for (int wrong : new int[] {-1, 3}) {
                CHECKS.argument("16: store " + wrong, () -> x.wouldSell(wrong, 4));
            }
            for (int wrong : new int[] {-1, 5}) {
                CHECKS.argument("16: step " + wrong, () -> x.wouldSell(of, wrong));
            }
        }
    }

    /** "with the stock that it has" */
    private static void wouldSellAtMostTheWholeStock() {
        MarkdownPlanner x = new MarkdownPlanner();
        x.setDemand(0, 4, 30);
        int[] one = {1, 8, 1, 1};
        int[] want = {1, 9, 10, 10};
        for (int i = 0; i < one.length; i++) {
            x.put(0, 2, one[i]);
            due("16: 10 of what is there, " + i, want[i], x.wouldSell(0, 4));
        }
        MarkdownPlanner y = new MarkdownPlanner();
        y.setDemand(0, 0, 4);
        Planners.stock(y, 0, 1, 1, 1);
        due("16: 4 of 3", 3, y.wouldSell(0, 0));
        y.put(0, 0, 1);
        due("16: 4 of 4", 4, y.wouldSell(0, 0));
        y.put(0, 0, 1);
        due("16: 4 of 5", 4, y.wouldSell(0, 0));
        y.run();
        due("16: one size is left", 1, y.wouldSell(0, 0));
        y.run();
        due("16: none is left", 0, y.wouldSell(0, 0));
    }

    private static void wouldSellOnlyAsks() {
        MarkdownPlanner x = Planners.withLadder();
        Planners.demands(x, 0, 3, 6, 9, 12, 15);
        Planners.stock(x, 0, 5, 5, 5);
        for (int step = 0; step < 5; step++) {
            due("16: at step " + step, 3 * step + 3, x.wouldSell(0, step));
        }
        due("16: stock stays", 15, x.stock(0, 0) + x.stock(0, 1) + x.stock(0, 2));
        due("16: step stays", 0, x.step(0));
        due("16: nothing sold", 0, x.sold(0));
        x.markDown(0, 4);
        due("16: a step below its own", 3, x.wouldSell(0, 0));
        due("16: all", 300, x.run());
        due("16: nothing more", 0, x.wouldSell(0, 4));
    }

    /** "Behind the last week the season is over": what is told stays as it was then. */
    private static void answersWhenTheSeasonIsOver() {
        MarkdownPlanner x = Planners.withLadder();
        x.setRules(4, 5, 2);
        x.begin(3);
        Planners.stock(x, 0, 20, 20, 20);
        Planners.demands(x, 0, 3, 6, 9, 12, 30);
        Planners.runWeeks(x, 2);
        x.markDown(0, 1);
        x.move(0, 1, 0, 1);
        x.run();
        due("10: over", 3, x.week());
        due("11: over", 47, x.stock(0, 0) + x.stock(0, 1) + x.stock(0, 2));
        due("11: over, moved", 1, x.stock(1, 0));
        due("12: over", 1, x.step(0));
        due("13: over, three of four weeks are left", 3, x.weeksToWait(0));
        due("13: over, never made higher", 0, x.weeksToWait(1));
        due("14: over", 12, x.sold(0));
        due("15: over", 2 * 300 + 480 - 2, x.taken());
        due("16: over", 30, x.wouldSell(0, 4));
        due("16: over, empty", 0, x.wouldSell(2, 4));
    }
}
