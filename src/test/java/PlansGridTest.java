/**
 * Every length of a season with every gap, every wait and stocks from none to 60: what the plans tell is held against
 * the model, which tries every plan.
 */
public final class PlansGridTest {
    private static final Checks CHECKS = new Checks("PlansGridTest");
    private static final int[] STOCKS = {0, 1, 7, 30, 59, 60};
    /** Rows of prices, each with a row of demands. */
    private static final int[][] PRICES = {{100, 90, 60, 35, 10}, {5, 4, 3, 2, 1}, {7, 7, 7, 7, 7}, {9, 9, 3, 3, 0}};
    private static final int[][] DEMANDS = {{1, 2, 4, 9, 30}, {1, 1, 2, 3, 5}, {2, 2, 3, 3, 4}, {0, 3, 1, 12, 13}};
    private static final int[] REMNANTS = {0, 2, 0, 9};

    public static void main(String[] args) {
        for (int weeks = 1; weeks <= 10; weeks++) {
            for (int gap = 1; gap <= 4; gap++) {
                for (int row = 0; row < PRICES.length; row++) {
                    neverMarkedDown(weeks, gap, row);
                    markedDownInEachWeek(weeks, gap, row);
                }
            }
        }
        CHECKS.end();
    }

    private static void neverMarkedDown(int weeks, int gap, int row) {
        for (int stock : STOCKS) {
            Pair pair = new Pair(weeks, gap, row, stock);
            pair.duePlans();
            pair.runWeeks(weeks / 2);
            pair.duePlans();
        }
    }

    /** In a season with few pieces sold so far: the demand at the first two steps comes only after the markdown. */
    private static void markedDownInEachWeek(int weeks, int gap, int row) {
        for (int week = 0; week < weeks; week++) {
            Pair pair = new Pair(weeks, gap, row, STOCKS[(week + gap) % STOCKS.length]);
            pair.runWeeks(week);
            pair.call("markDown", 0, 1);
            pair.duePlans();
            for (int run = week; run < weeks; run++) {
                pair.runWeeks(1);
                pair.duePlans();
            }
        }
    }

    /** A planner and a model that are asked the same. */
    private static final class Pair {
        private final MarkdownPlanner planner = new MarkdownPlanner();
        private final Model model = new Model();
        private final String what;

        Pair(int weeks, int gap, int row, int stock) {
            what = "weeks " + weeks + ", gap " + gap + ", row " + row + ", stock " + stock + ": ";
            call("begin", weeks);
            call("setRules", gap, REMNANTS[row], 0);
            for (int step = 4; step >= 0; step--) {
                call("setPrice", step, PRICES[row][step]);
                call("setDemand", 0, step, DEMANDS[row][step]);
            }
            for (int rest = stock; rest > 0; rest -= 40) {
                call("put", 0, 1, Math.min(rest, 40));
            }
        }

        void call(String name, int... a) {
            String want = model.answer(name, a);
            StringBuilder text = new StringBuilder(what).append("week ").append(model.week).append(", ").append(name);
            for (int number : a) {
                text.append(' ').append(number);
            }
            CHECKS.due(text.toString(), want, Calls.answer(planner, name, a));
        }

        void runWeeks(int weeks) {
            for (int i = 0; i < weeks; i++) {
                call("run");
            }
        }

        void duePlans() {
            call("best", 0);
            call("bestByAll", 0);
            for (int week = Math.max(0, model.week - 1); week <= model.weeks; week++) {
                call("planned", 0, week);
            }
            for (int left : new int[] {0, 1, 20, 59, 60}) {
                call("bestLeaving", 0, left);
            }
        }
    }
}
