import java.util.ArrayList;
import java.util.List;

/**
 * Many runs of mixed calls, each answer held against a plain model of the document's words. The calls come from a
 * fixed row of numbers, so every run of the test is the same.
 */
public final class ModelTest {
    private static final int RUNS = 400;
    private static final int CALLS = 512;
    private static final String[] NAMES = {"begin", "setPrice", "setDemand", "setRules", "put", "markDown", "move",
            "run", "week", "stock", "step", "weeksToWait", "sold", "taken", "wouldSell", "best", "bestByAll",
            "planned", "bestLeaving"};
    private static final int[] OFTEN = {2, 8, 14, 4, 10, 9, 5, 9, 1, 4, 1, 2, 1, 2, 4, 8, 5, 10, 8};

    private static final Checks CHECKS = new Checks("ModelTest");
    private static final int[] ANSWERED = new int[NAMES.length];
    private static final int[] REFUSED = new int[NAMES.length];
    private static long numbers = 20261119L;

    public static void main(String[] args) {
        for (int run = 0; run < RUNS; run++) {
            oneRun(run);
        }
        for (int i = 0; i < NAMES.length; i++) {
            boolean neverThrows = NAMES[i].equals("week") || NAMES[i].equals("taken");
            CHECKS.due(NAMES[i] + " was answered", 1, ANSWERED[i] > 0 ? 1 : 0);
            CHECKS.due(NAMES[i] + " was refused", neverThrows ? 0 : 1, REFUSED[i] > 0 ? 1 : 0);
        }
        CHECKS.end();
    }

    private static int below(int bound) {
        numbers = numbers * 6364136223846793005L + 1442695040888963407L;
        return (int) ((numbers >>> 33) % bound);
    }

    /** A number from least to most; now and then one just outside, or far outside. */
    private static int about(int least, int most) {
        int luck = below(120);
        if (luck == 0) {
            return least - 1;
        }
        if (luck == 1) {
            return most + 1;
        }
        if (luck == 2) {
            return below(2) == 0 ? Integer.MIN_VALUE : Integer.MAX_VALUE;
        }
        return least + below(most - least + 1);
    }

    private static void oneRun(int run) {
        MarkdownPlanner x = new MarkdownPlanner();
        Model model = new Model();
        int often = 0;
        for (int weight : OFTEN) {
            often += weight;
        }
        // Small demands and prices make many plans of the same worth, so some runs keep to them.
        int[] most = {below(2) == 0 ? 30 : 1 + below(6), below(2) == 0 ? 1000 : 1 + below(8), 1 + below(40)};
        int madeAhead = below(4) == 0 ? 0 : ladderMadeAhead(run, x, model);
        for (int call = madeAhead; call < CALLS; call++) {
            int at = 0;
            for (int luck = below(often); luck >= OFTEN[at]; at++) {
                luck -= OFTEN[at];
            }
            oneCall(run, call, at, x, model, argumentsOf(NAMES[at], model, most));
        }
    }

    /** Sets up prices that go down and demands that go up, so that plans have many steps; returns how many calls. */
    private static int ladderMadeAhead(int run, MarkdownPlanner x, Model model) {
        int call = 0;
        for (int step = 4; step > 0; step--) {
            int least = step == 4 ? 0 : model.prices[step + 1];
            oneCall(run, call++, 1, x, model, new int[] {step, least + below(101 - least), 0, 0});
        }
        for (int store = 0; store < 3; store++) {
            int demand = 0;
            for (int step = 0; step < 5; step++) {
                demand = Math.min(30, demand + below(store == 0 ? 3 : 8));
                oneCall(run, call++, 2, x, model, new int[] {store, step, demand, 0});
            }
            oneCall(run, call++, 4, x, model, new int[] {store, below(3), 1 + below(40), 0});
            oneCall(run, call++, 4, x, model, new int[] {store, below(3), 1 + below(20), 0});
        }
        for (int week = 0; week < 8; week++) {
            oneCall(run, call++, 17, x, model, new int[] {below(3), week, 0, 0});
        }
        return call;
    }

    private static void oneCall(int run, int call, int at, MarkdownPlanner x, Model model, int[] a) {
        String want = model.answer(NAMES[at], a);
        String got = answerOf(x, NAMES[at], a);
        if (want.startsWith("throws.")) {
            REFUSED[at]++;
        } else {
            ANSWERED[at]++;
        }
        CHECKS.due("run " + run + ", call " + call + ": " + NAMES[at] + List.of(a[0], a[1], a[2], a[3]), want, got);
    }

    private static int[] argumentsOf(String name, Model model, int[] most) {
        int[] a = new int[4];
        switch (name) {
            case "begin" -> a[0] = about(1, 10);
            case "setPrice" -> {
                a[0] = about(0, 4);
                a[1] = below(3) == 0 ? about(0, most[1]) : about(model.leastPrice(a[0]), model.mostPrice(a[0], most[1]));
                a[1] = below(60) == 0 ? about(0, 1000) : a[1];
            }
            case "setDemand" -> {
                a[0] = about(0, 2);
                a[1] = about(0, 4);
                a[2] = below(20) == 0 ? about(0, 30) : below(most[0] + 1);
            }
            case "setRules" -> {
                a[0] = about(1, 4);
                a[1] = below(3) == 0 ? about(0, 1000) : below(most[1] + 1);
                a[2] = about(0, 100);
            }
            case "put" -> {
                a[0] = about(0, 2);
                a[1] = about(0, 2);
                a[2] = below(20) == 0 ? about(1, 40) : 1 + below(most[2]);
            }
            case "move" -> {
                a[0] = about(0, 2);
                a[1] = about(0, 2);
                a[2] = about(0, 2);
                a[3] = below(3) == 0 ? about(1, 40) : about(1, 4);
            }
            case "planned" -> {
                a[0] = about(0, 2);
                a[1] = about(model.week, Math.max(model.week, model.weeks - 1));
            }
            case "bestLeaving" -> {
                a[0] = about(0, 2);
                a[1] = below(2) == 0 ? about(0, 60) : about(0, 8);
            }
            case "stock" -> {
                a[0] = about(0, 2);
                a[1] = about(0, 2);
            }
            default -> {
                a[0] = about(0, 2);
                a[1] = about(0, 4);
            }
        }
        return a;
    }

    private static String answerOf(MarkdownPlanner x, String name, int[] a) {
        int[] answer = new int[1];
        String thrown = Checks.thrownBy(() -> answer[0] = called(x, name, a));
        return thrown.equals("nothing") ? String.valueOf(answer[0]) : "throws." + thrown;
    }

    private static int called(MarkdownPlanner x, String name, int[] a) {
        switch (name) {
            case "begin": return x.begin(a[0]);
            case "setPrice": return x.setPrice(a[0], a[1]);
            case "setDemand": return x.setDemand(a[0], a[1], a[2]);
            case "setRules": x.setRules(a[0], a[1], a[2]); return 0;
            case "put": return x.put(a[0], a[1], a[2]);
            case "markDown": return x.markDown(a[0], a[1]);
            case "move": return x.move(a[0], a[1], a[2], a[3]);
            case "run": return x.run();
            case "week": return x.week();
            case "stock": return x.stock(a[0], a[1]);
            case "step": return x.step(a[0]);
            case "weeksToWait": return x.weeksToWait(a[0]);
            case "sold": return x.sold(a[0]);
            case "taken": return x.taken();
            case "wouldSell": return x.wouldSell(a[0], a[1]);
            case "best": return x.best(a[0]);
            case "bestByAll": return x.bestByAll(a[0]);
            case "planned": return x.planned(a[0], a[1]);
            default: return x.bestLeaving(a[0], a[1]);
        }
    }

    /** The document's words, as plainly as they go: a store's steps so far are kept week by week. */
    private static final class Model {
        private static final String ARGUMENT = "throws.IllegalArgumentException";
        private static final String STATE = "throws.IllegalStateException";

        private int weeks = 8;
        private int week;
        private int gap = 2;
        private int remnant;
        private int moving;
        private int taken;
        private final int[] prices = {100, 100, 100, 100, 100};
        private final int[][] demands = new int[3][5];
        private final int[][] stocks = new int[3][3];
        private final int[] sold = new int[3];
        private final int[] steps = new int[3];
        /** The weeks in which each store's step was made higher. */
        private final List<List<Integer>> markdowns = List.of(new ArrayList<>(), new ArrayList<>(), new ArrayList<>());

        int leastPrice(int step) {
            return step >= 0 && step < 4 ? prices[step + 1] : 0;
        }

        int mostPrice(int step, int first) {
            return Math.max(leastPrice(step), step > 0 && step < 5 ? prices[step - 1] : first);
        }

        private static boolean in(int value, int least, int most) {
            return least <= value && value <= most;
        }

        String answer(String name, int[] a) {
            if (!argumentsFit(name, a)) {
                return ARGUMENT;
            }
            if (!stateFits(name, a)) {
                return STATE;
            }
            return String.valueOf(done(name, a));
        }

        private boolean argumentsFit(String name, int[] a) {
            switch (name) {
                case "begin": return in(a[0], 1, 10);
                case "setPrice": return in(a[0], 0, 4) && in(a[1], 0, 1000);
                case "setDemand": return in(a[0], 0, 2) && in(a[1], 0, 4) && in(a[2], 0, 30);
                case "setRules": return in(a[0], 1, 4) && in(a[1], 0, 1000) && in(a[2], 0, 100);
                case "put": return in(a[0], 0, 2) && in(a[1], 0, 2) && in(a[2], 1, 40);
                case "move": return in(a[0], 0, 2) && in(a[1], 0, 2) && in(a[2], 0, 2) && in(a[3], 1, 40)
                        && a[0] != a[1];
                case "markDown", "wouldSell": return in(a[0], 0, 2) && in(a[1], 0, 4);
                case "stock": return in(a[0], 0, 2) && in(a[1], 0, 2);
                case "step", "weeksToWait", "sold", "best", "bestByAll": return in(a[0], 0, 2);
                case "planned": return in(a[0], 0, 2) && in(a[1], week, weeks - 1);
                case "bestLeaving": return in(a[0], 0, 2) && in(a[1], 0, 60);
                default: return true;
            }
        }

        private boolean stateFits(String name, int[] a) {
            boolean over = week == weeks;
            switch (name) {
                case "setPrice":
                    int[] then = prices.clone();
                    then[a[0]] = a[1];
                    return then[0] >= then[1] && then[1] >= then[2] && then[2] >= then[3] && then[3] >= then[4];
                case "put": return whole(a[0]) + a[2] <= 60;
                case "markDown": return !over && a[1] > steps[a[0]] && gapGoneBy(markdowns.get(a[0]), week);
                case "move": return !over && stocks[a[0]][a[2]] >= a[3] && whole(a[1]) + a[3] <= 60;
                case "run": return !over;
                case "bestByAll": return weeks - week <= 6;
                default: return true;
            }
        }

        private boolean gapGoneBy(List<Integer> raised, int now) {
            return raised.isEmpty() || now - raised.get(raised.size() - 1) >= gap;
        }

        private int whole(int store) {
            return stocks[store][0] + stocks[store][1] + stocks[store][2];
        }

        private int done(String name, int[] a) {
            switch (name) {
                case "begin": return begun(a[0]);
                case "setPrice": return changed(prices, a[0], a[1]);
                case "setDemand": return changed(demands[a[0]], a[1], a[2]);
                case "setRules": gap = a[0]; remnant = a[1]; moving = a[2]; return 0;
                case "put": return stocks[a[0]][a[1]] += a[2];
                case "markDown": steps[a[0]] = a[1]; markdowns.get(a[0]).add(week); return prices[a[1]];
                case "move":
                    stocks[a[0]][a[2]] -= a[3];
                    stocks[a[1]][a[2]] += a[3];
                    taken -= a[3] * moving;
                    return a[3] * moving;
                case "run": return run();
                case "week": return week;
                case "stock": return stocks[a[0]][a[1]];
                case "step": return steps[a[0]];
                case "weeksToWait": return weeksToWait(a[0]);
                case "sold": return sold[a[0]];
                case "taken": return taken;
                case "wouldSell": return wouldSell(a[0], a[1]);
                case "best", "bestByAll": return bestPlan(a[0], 60)[0];
                case "planned": return bestPlan(a[0], 60)[1 + a[1] - week];
                default: return bestPlan(a[0], a[1])[0];
            }
        }

        private int begun(int newWeeks) {
            int run = week;
            weeks = newWeeks;
            week = 0;
            taken = 0;
            for (int store = 0; store < 3; store++) {
                steps[store] = 0;
                sold[store] = 0;
                markdowns.get(store).clear();
            }
            return run;
        }

        private static int changed(int[] row, int at, int value) {
            int before = row[at];
            row[at] = value;
            return before;
        }

        private int weeksToWait(int store) {
            int wait = 0;
            while (!gapGoneBy(markdowns.get(store), week + wait)) {
                wait++;
            }
            return wait;
        }

        private int wouldSell(int store, int step) {
            int k = 0;
            for (int size = 0; size < 3; size++) {
                k += stocks[store][size] > 0 ? 1 : 0;
            }
            return Math.min(whole(store), Math.floorDiv(demands[store][step] * k, 3));
        }

        private int run() {
            int all = 0;
            for (int store = 0; store < 3; store++) {
                int pieces = wouldSell(store, steps[store]);
                for (int i = 0; i < pieces; i++) {
                    int[] s = stocks[store];
                    int size = s[0] >= s[1] && s[0] >= s[2] ? 0 : s[1] >= s[2] ? 1 : 2;
                    s[size]--;
                    sold[store]++;
                    all += prices[steps[store]];
                }
            }
            taken += all;
            week++;
            return all;
        }

        /** The worth of the best plan that leaves at most so many pieces (-1 if there is none), then its steps. */
        private int[] bestPlan(int store, int mostLeft) {
            int[] best = new int[1 + weeks - week];
            best[0] = -1;
            tryPlans(store, mostLeft, new int[weeks - week], 0, best);
            return best;
        }

        private void tryPlans(int store, int mostLeft, int[] plan, int told, int[] best) {
            if (told == plan.length) {
                int worth = worthOf(store, mostLeft, plan);
                // Plans are tried in the order of their steps, so that the first of several stays.
                if (worth > best[0]) {
                    best[0] = worth;
                    System.arraycopy(plan, 0, best, 1, plan.length);
                }
                return;
            }
            int before = told == 0 ? steps[store] : plan[told - 1];
            for (int step = before; step < 5; step++) {
                plan[told] = step;
                if (step == before || mayRaise(store, plan, told)) {
                    tryPlans(store, mostLeft, plan, told + 1, best);
                }
            }
        }

        private boolean mayRaise(int store, int[] plan, int told) {
            List<Integer> raised = new ArrayList<>(markdowns.get(store));
            for (int i = 0; i < told; i++) {
                if (plan[i] > (i == 0 ? steps[store] : plan[i - 1])) {
                    raised.add(week + i);
                }
            }
            return gapGoneBy(raised, week + told);
        }

        private int worthOf(int store, int mostLeft, int[] plan) {
            int left = whole(store);
            int worth = 0;
            for (int step : plan) {
                for (int i = 0; i < demands[store][step] && left > 0; i++) {
                    left--;
                    worth += prices[step];
                }
            }
            return left > mostLeft ? -1 : worth + left * remnant;
        }
    }
}
