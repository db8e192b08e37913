/** Calls of the face by their names, so that a test can go through a table of them. */
final class Calls {
    static final String ARGUMENT = "throws.IllegalArgumentException";
    static final String STATE = "throws.IllegalStateException";
    static final String[] NAMES = {"begin", "setPrice", "setDemand", "setRules", "put", "markDown", "move",
            "run", "week", "stock", "step", "weeksToWait", "sold", "taken", "wouldSell", "best", "bestByAll",
            "planned", "bestLeaving"};

    private Calls() {
    }

    /** What the call answers, or throws. with the exception's name; a call takes as many of the numbers as it needs. */
    static String answer(MarkdownPlanner x, String name, int... a) {
        int[] answer = new int[1];
        String thrown = Checks.thrownBy(() -> answer[0] = made(x, name, a));
        return thrown.equals("nothing") ? String.valueOf(answer[0]) : "throws." + thrown;
    }

    private static int made(MarkdownPlanner x, String name, int[] a) {
        switch (name) {
            case "begin": return x.begin(a[0]);
            case "setPrice": return x.setPrice(a[0], a[1]);
            case "setDemand": return x.setDemand(a[0], a[1], a[2]);
            case "setRules": x.setRules(a[0], a[1], a[2]); return 0;
            case "put": return x.put(a[0], a[1], a[2]);
            case "markDown": return x.markDown(a[0], a[1]);
            case "move": return x.move(a[0], a[1], a[2], a[3]);
            case "run": return x.run();
            case "week": return x.week();
            case "stock": return x.stock(a[0], a[1]);
            case "step": return x.step(a[0]);
            case "weeksToWait": return x.weeksToWait(a[0]);
            case "sold": return x.sold(a[0]);
            case "taken": return x.taken();
            case "wouldSell": return x.wouldSell(a[0], a[1]);
            case "best": return x.best(a[0]);
            case "bestByAll": return x.bestByAll(a[0]);
            case "planned": return x.planned(a[0], a[1]);
            case "bestLeaving": return x.bestLeaving(a[0], a[1]);
            default: throw new UnsupportedOperationException(name);
        }
    }
}
