/** Steps that many tests begin with. */
final class Planners {
    private Planners() {
    }

    /** A planner whose steps cost 100, 80, 60, 40, 20. */
    static MarkdownPlanner withLadder() {
        return withPrices(100, 80, 60, 40, 20);
    }

    static MarkdownPlanner withPrices(int... prices) {
        MarkdownPlanner x = new MarkdownPlanner();
        // Up from the first step, then down from the last one, so that no price on the way is refused.
        for (int step = 0; step < 5; step++) {
            x.setPrice(step, 1000);
        }
        for (int step = 4; step >= 0; step--) {
            x.setPrice(step, prices[step]);
        }
        return x;
    }

    static void demands(MarkdownPlanner x, int store, int... pieces) {
        for (int step = 0; step < pieces.length; step++) {
            x.setDemand(store, step, pieces[step]);
        }
    }

    /** Puts pieces of the sizes 0, 1, 2; more than 40 of one size in two goes. */
    static void stock(MarkdownPlanner x, int store, int... pieces) {
        for (int size = 0; size < pieces.length; size++) {
            int first = Math.min(40, pieces[size]);
            if (first > 0) {
                x.put(store, size, first);
            }
            if (pieces[size] > first) {
                x.put(store, size, pieces[size] - first);
            }
        }
    }

    static void runWeeks(MarkdownPlanner x, int weeks) {
        for (int i = 0; i < weeks; i++) {
            x.run();
        }
    }

    /** Runs until a week is refused; no season has more than 10 weeks. */
    static void runToTheEnd(MarkdownPlanner x) {
        for (int i = 0; i < 10 && Checks.thrownBy(x::run).equals("nothing"); i++) {
            // run has done it
        }
    }
}
