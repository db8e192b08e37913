import java.util.List;

/**
 * Many runs of mixed calls, each answer held against a plain model of the document's words. The calls come from a
 * fixed row of numbers, so every run of the test is the same.
 */
public final class ModelTest {
    private static final int RUNS = 400;
    private static final int CALLS = 512;
    private static final String[] NAMES = Calls.NAMES;
    private static final int[] OFTEN = {2, 8, 14, 4, 10, 9, 5, 9, 1, 4, 1, 2, 1, 2, 4, 8, 5, 10, 8};

    private static final Checks CHECKS = new Checks("ModelTest");
    private static final int[] ANSWERED = new int[NAMES.length];
    private static final int[] REFUSED = new int[NAMES.length];
    private static long numbers = 20261119L;

    public static void main(String[] args) {
        for (int run = 0; run < RUNS; run++) {
            oneRun(run);
        }
        sideBySide();
        for (int i = 0; i < NAMES.length; i++) {
            boolean neverThrows = NAMES[i].equals("week") || NAMES[i].equals("taken");
            CHECKS.due(NAMES[i] + " was answered", 1, ANSWERED[i] > 0 ? 1 : 0);
            CHECKS.due(NAMES[i] + " was refused", neverThrows ? 0 : 1, REFUSED[i] > 0 ? 1 : 0);
        }
        CHECKS.end();
    }

    private static int below(int bound) {
        numbers = numbers * 6364136223846793005L + 1442695040888963407L;
        return (int) ((numbers >>> 33) % bound);
    }

    /** A number from least to most; now and then one just outside, or far outside. */
    private static int about(int least, int most) {
        int luck = below(120);
        if (luck == 0) {
            return least - 1;
        }
        if (luck == 1) {
            return most + 1;
        }
        if (luck == 2) {
            return below(2) == 0 ? Integer.MIN_VALUE : Integer.MAX_VALUE;
        }
        return least + below(most - least + 1);
    }

    private static void oneRun(int run) {
        MarkdownPlanner x = new MarkdownPlanner();
        Model model = new Model();
        // Small demands and prices make many plans of the same worth, so some runs keep to them.
        int[] most = {below(2) == 0 ? 30 : 1 + below(6), below(2) == 0 ? 1000 : 1 + below(8), 1 + below(40)};
        int madeAhead = below(4) == 0 ? 0 : ladderMadeAhead(run, x, model);
        for (int call = madeAhead; call < CALLS; call++) {
            int at = anyCall();
            oneCall(run, call, at, x, model, argumentsOf(NAMES[at], model, most));
        }
    }

    /** Planners that are used in turn have nothing in common. */
    private static void sideBySide() {
        MarkdownPlanner[] planners = new MarkdownPlanner[3];
        Model[] models = new Model[3];
        int madeAhead = 0;
        for (int i = 0; i < 3; i++) {
            planners[i] = new MarkdownPlanner();
            models[i] = new Model();
            madeAhead = ladderMadeAhead(RUNS + i, planners[i], models[i]);
        }
        int[] most = {12, 200, 20};
        for (int call = madeAhead; call < CALLS; call++) {
            for (int i = 0; i < 3; i++) {
                int at = anyCall();
                oneCall(RUNS + i, call, at, planners[i], models[i], argumentsOf(NAMES[at], models[i], most));
            }
        }
    }

    /** The place of a call's name, each as often as its weight tells. */
    private static int anyCall() {
        int often = 0;
        for (int weight : OFTEN) {
            often += weight;
        }
        int at = 0;
        for (int luck = below(often); luck >= OFTEN[at]; at++) {
            luck -= OFTEN[at];
        }
        return at;
    }

    /** Sets up prices that go down and demands that go up, so that plans have many steps; returns how many calls. */
    private static int ladderMadeAhead(int run, MarkdownPlanner x, Model model) {
        int call = 0;
        for (int step = 4; step > 0; step--) {
            int least = step == 4 ? 0 : model.prices[step + 1];
            oneCall(run, call++, 1, x, model, new int[] {step, least + below(101 - least), 0, 0});
        }
        for (int store = 0; store < 3; store++) {
            int demand = 0;
            for (int step = 0; step < 5; step++) {
                demand = Math.min(30, demand + below(store == 0 ? 3 : 8));
                oneCall(run, call++, 2, x, model, new int[] {store, step, demand, 0});
            }
            oneCall(run, call++, 4, x, model, new int[] {store, below(3), 1 + below(40), 0});
            oneCall(run, call++, 4, x, model, new int[] {store, below(3), 1 + below(20), 0});
        }
        for (int week = 0; week < 8; week++) {
            oneCall(run, call++, 17, x, model, new int[] {below(3), week, 0, 0});
        }
        return call;
    }

    private static void oneCall(int run, int call, int at, MarkdownPlanner x, Model model, int[] a) {
        String want = model.answer(NAMES[at], a);
        String got = Calls.answer(x, NAMES[at], a);
        if (want.startsWith("throws.")) {
            REFUSED[at]++;
        } else {
            ANSWERED[at]++;
        }
        CHECKS.due("run " + run + ", call " + call + ": " + NAMES[at] + List.of(a[0], a[1], a[2], a[3]), want, got);
    }

    private static int[] argumentsOf(String name, Model model, int[] most) {
        int[] a = new int[4];
        switch (name) {
            case "begin" -> a[0] = about(1, 10);
            case "setPrice" -> {
                a[0] = about(0, 4);
                int highest = model.mostPrice(a[0], most[1]);
                a[1] = below(3) == 0 ? about(0, most[1]) : about(model.leastPrice(a[0]), highest);
                a[1] = below(60) == 0 ? about(0, 1000) : a[1];
            }
            case "setDemand" -> {
                a[0] = about(0, 2);
                a[1] = about(0, 4);
                a[2] = below(20) == 0 ? about(0, 30) : below(most[0] + 1);
            }
            case "setRules" -> {
                a[0] = about(1, 4);
                a[1] = below(3) == 0 ? about(0, 1000) : below(most[1] + 1);
                a[2] = about(0, 100);
            }
            case "put" -> {
                a[0] = about(0, 2);
                a[1] = about(0, 2);
                a[2] = below(20) == 0 ? about(1, 40) : 1 + below(most[2]);
            }
            case "move" -> {
                a[0] = about(0, 2);
                a[1] = about(0, 2);
                a[2] = about(0, 2);
                a[3] = below(3) == 0 ? about(1, 40) : about(1, 4);
            }
            case "planned" -> {
                a[0] = about(0, 2);
                a[1] = about(model.week, Math.max(model.week, model.weeks - 1));
            }
            case "bestLeaving" -> {
                a[0] = about(0, 2);
                a[1] = below(2) == 0 ? about(0, 60) : about(0, 8);
            }
            case "stock" -> {
                a[0] = about(0, 2);
                a[1] = about(0, 2);
            }
            default -> {
                a[0] = about(0, 2);
                a[1] = about(0, 4);
            }
        }
        return a;
    }
}
