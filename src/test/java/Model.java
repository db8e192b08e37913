import java.util.ArrayList;
import java.util.List;

/** The document's words, as plainly as they go: a store's steps so far are kept week by week. */
final class Model {
    int weeks = 8;
    int week;
    private int gap = 2;
    private int remnant;
    private int moving;
    private int taken;
    final int[] prices = {100, 100, 100, 100, 100};
    private final int[][] demands = new int[3][5];
    private final int[][] stocks = new int[3][3];
    private final int[] sold = new int[3];
    private final int[] steps = new int[3];
    /** The weeks in which each store's step was made higher. */
    private final List<List<Integer>> markdowns = List.of(new ArrayList<>(), new ArrayList<>(), new ArrayList<>());

    int leastPrice(int step) {
        return step >= 0 && step < 4 ? prices[step + 1] : 0;
    }

    int mostPrice(int step, int first) {
        return Math.max(leastPrice(step), step > 0 && step < 5 ? prices[step - 1] : first);
    }

    private static boolean in(int value, int least, int most) {
        return least <= value && value <= most;
    }

    String answer(String name, int[] a) {
        if (!argumentsFit(name, a)) {
            return Calls.ARGUMENT;
        }
        if (!stateFits(name, a)) {
            return Calls.STATE;
        }
        return String.valueOf(done(name, a));
    }

    private boolean argumentsFit(String name, int[] a) {
        switch (name) {
            case "begin": return in(a[0], 1, 10);
            case "setPrice": return in(a[0], 0, 4) && in(a[1], 0, 1000);
            case "setDemand": return in(a[0], 0, 2) && in(a[1], 0, 4) && in(a[2], 0, 30);
            case "setRules": return in(a[0], 1, 4) && in(a[1], 0, 1000) && in(a[2], 0, 100);
            case "put": return in(a[0], 0, 2) && in(a[1], 0, 2) && in(a[2], 1, 40);
            case "move": return in(a[0], 0, 2) && in(a[1], 0, 2) && in(a[2], 0, 2) && in(a[3], 1, 40)
                    && a[0] != a[1];
            case "markDown", "wouldSell": return in(a[0], 0, 2) && in(a[1], 0, 4);
            case "stock": return in(a[0], 0, 2) && in(a[1], 0, 2);
            case "step", "weeksToWait", "sold", "best", "bestByAll": return in(a[0], 0, 2);
            case "planned": return in(a[0], 0, 2) && in(a[1], week, weeks - 1);
            case "bestLeaving": return in(a[0], 0, 2) && in(a[1], 0, 60);
            default: return true;
        }
    }

    private boolean stateFits(String name, int[] a) {
        boolean over = week == weeks;
        switch (name) {
            case "setPrice":
                int[] then = prices.clone();
                then[a[0]] = a[1];
                return then[0] >= then[1] && then[1] >= then[2] && then[2] >= then[3] && then[3] >= then[4];
            case "put": return whole(a[0]) + a[2] <= 60;
            case "markDown": return !over && a[1] > steps[a[0]] && gapGoneBy(markdowns.get(a[0]), week);
            case "move": return !over && stocks[a[0]][a[2]] >= a[3] && whole(a[1]) + a[3] <= 60;
            case "run": return !over;
            case "bestByAll": return weeks - week <= 6;
            default: return true;
        }
    }

    private boolean gapGoneBy(List<Integer> raised, int now) {
        return raised.isEmpty() || now - raised.get(raised.size() - 1) >= gap;
    }

    private int whole(int store) {
        return stocks[store][0] + stocks[store][1] + stocks[store][2];
    }

    private int done(String name, int[] a) {
        switch (name) {
            case "begin": return begun(a[0]);
            case "setPrice": return changed(prices, a[0], a[1]);
            case "setDemand": return changed(demands[a[0]], a[1], a[2]);
            case "setRules": gap = a[0]; remnant = a[1]; moving = a[2]; return 0;
            case "put": return stocks[a[0]][a[1]] += a[2];
            case "markDown": steps[a[0]] = a[1]; markdowns.get(a[0]).add(week); return prices[a[1]];
            case "move":
                stocks[a[0]][a[2]] -= a[3];
                stocks[a[1]][a[2]] += a[3];
                taken -= a[3] * moving;
                return a[3] * moving;
            case "run": return run();
            case "week": return week;
            case "stock": return stocks[a[0]][a[1]];
            case "step": return steps[a[0]];
            case "weeksToWait": return weeksToWait(a[0]);
            case "sold": return sold[a[0]];
            case "taken": return taken;
            case "wouldSell": return wouldSell(a[0], a[1]);
            case "best", "bestByAll": return bestPlan(a[0], 60)[0];
            case "planned": return bestPlan(a[0], 60)[1 + a[1] - week];
            default: return bestPlan(a[0], a[1])[0];
        }
    }

    private int begun(int newWeeks) {
        int run = week;
        weeks = newWeeks;
        week = 0;
        taken = 0;
        for (int store = 0; store < 3; store++) {
            steps[store] = 0;
            sold[store] = 0;
            markdowns.get(store).clear();
        }
        return run;
    }

    private static int changed(int[] row, int at, int value) {
        int before = row[at];
        row[at] = value;
        return before;
    }

    private int weeksToWait(int store) {
        int wait = 0;
        while (!gapGoneBy(markdowns.get(store), week + wait)) {
            wait++;
        }
        return wait;
    }

    private int wouldSell(int store, int step) {
        int k = 0;
        for (int size = 0; size < 3; size++) {
            k += stocks[store][size] > 0 ? 1 : 0;
        }
        return Math.min(whole(store), Math.floorDiv(demands[store][step] * k, 3));
    }

    private int run() {
        int all = 0;
        for (int store = 0; store < 3; store++) {
            int pieces = wouldSell(store, steps[store]);
            for (int i = 0; i < pieces; i++) {
                int[] s = stocks[store];
                int size = s[0] >= s[1] && s[0] >= s[2] ? 0 : s[1] >= s[2] ? 1 : 2;
                s[size]--;
                sold[store]++;
                all += prices[steps[store]];
            }
        }
        taken += all;
        week++;
        return all;
    }

    /** The worth of the best plan that leaves at most so many pieces (-1 if there is none), then its steps. */
    private int[] bestPlan(int store, int mostLeft) {
        int[] best = new int[1 + weeks - week];
        best[0] = -1;
        tryPlans(store, mostLeft, new int[weeks - week], 0, best);
        return best;
    }

    private void tryPlans(int store, int mostLeft, int[] plan, int told, int[] best) {
        if (told == plan.length) {
            int worth = worthOf(store, mostLeft, plan);
            // Plans are tried in the order of their steps, so that the first of several stays.
            if (worth > best[0]) {
                best[0] = worth;
                System.arraycopy(plan, 0, best, 1, plan.length);
            }
            return;
        }
        int before = told == 0 ? steps[store] : plan[told - 1];
        for (int step = before; step < 5; step++) {
            plan[told] = step;
            if (step == before || mayRaise(store, plan, told)) {
                tryPlans(store, mostLeft, plan, told + 1, best);
            }
        }
    }

    private boolean mayRaise(int store, int[] plan, int told) {
        List<Integer> raised = new ArrayList<>(markdowns.get(store));
        for (int i = 0; i < told; i++) {
            if (plan[i] > (i == 0 ? steps[store] : plan[i - 1])) {
                raised.add(week + i);
            }
        }
        return gapGoneBy(raised, week + told);
    }

    private int worthOf(int store, int mostLeft, int[] plan) {
        int left = whole(store);
        int worth = 0;
        for (int step : plan) {
            for (int i = 0; i < demands[store][step] && left > 0; i++) {
                left--;
                worth += prices[step];
            }
        }
        return left > mostLeft ? -1 : worth + left * remnant;
    }
}
