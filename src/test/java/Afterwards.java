import java.util.ArrayList;
import java.util.List;

/** Tells all that a planner has to answer, by a fixed row of calls that ends with a new season. */
final class Afterwards {
    private final MarkdownPlanner planner;
    private final List<String> told = new ArrayList<>();

    private Afterwards(MarkdownPlanner planner) {
        this.planner = planner;
    }

    /** The calls with their answers; they use the planner up, with some 350 calls. */
    static List<String> of(MarkdownPlanner planner) {
        Afterwards after = new Afterwards(planner);
        after.whatIs();
        after.plans();
        after.pricesAndDemands();
        after.acts();
        after.weeksToTheEnd();
        after.newSeason();
        return after.told;
    }

    /** The first call that two rows tell in another way; empty if there is none. */
    static String firstDifference(List<String> want, List<String> got) {
        for (int i = 0; i < want.size() && i < got.size(); i++) {
            if (!want.get(i).equals(got.get(i))) {
                return got.get(i) + " instead of " + want.get(i);
            }
        }
        return want.size() == got.size() ? "" : "another number of calls";
    }

    private String tell(String name, int... a) {
        String answer = Calls.answer(planner, name, a);
        StringBuilder call = new StringBuilder(name);
        for (int number : a) {
            call.append(' ').append(number);
        }
        told.add(call + " = " + answer);
        return answer;
    }

    private void whatIs() {
        tell("week");
        tell("taken");
        for (int store = 0; store < 3; store++) {
            tell("step", store);
            tell("sold", store);
            tell("weeksToWait", store);
            for (int size = 0; size < 3; size++) {
                tell("stock", store, size);
            }
            for (int step = 0; step < 5; step++) {
                tell("wouldSell", store, step);
            }
        }
    }

    private void plans() {
        for (int store = 0; store < 3; store++) {
            tell("best", store);
            tell("bestByAll", store);
            for (int week = 0; week < 11; week++) {
                tell("planned", store, week);
            }
            for (int left = 0; left <= 60; left += 10) {
                tell("bestLeaving", store, left);
            }
        }
    }

    private void pricesAndDemands() {
        for (int step = 4; step >= 0; step--) {
            tell("setPrice", step, step == 4 ? 0 : 4 - step);
        }
        int price = 1000;
        for (int step = 0; step < 5; step++) {
            tell("setPrice", step, price);
            price -= 150;
        }
        for (int store = 0; store < 3; store++) {
            for (int step = 0; step < 5; step++) {
                tell("setDemand", store, step, 4 + 2 * step + store);
            }
        }
    }

    private void acts() {
        for (int store = 0; store < 3; store++) {
            tell("markDown", store, 3);
            tell("weeksToWait", store);
            for (int size = 0; size < 3; size++) {
                tell("move", store, (store + 1) % 3, size, 1);
                tell("put", store, size, 1);
            }
        }
        tell("taken");
    }

    private void weeksToTheEnd() {
        for (int run = 0; run < 11 && !tell("run").startsWith("throws."); run++) {
            tell("taken");
            for (int store = 0; store < 3; store++) {
                tell("weeksToWait", store);
                tell("best", store);
                for (int size = 0; size < 3; size++) {
                    tell("stock", store, size);
                }
            }
        }
        tell("week");
        for (int store = 0; store < 3; store++) {
            tell("sold", store);
        }
    }

    private void newSeason() {
        tell("begin", 3);
        for (int store = 0; store < 3; store++) {
            tell("step", store);
            tell("put", store, 0, 3);
            tell("markDown", store, 2);
            tell("weeksToWait", store);
            tell("move", store, (store + 1) % 3, 0, 2);
            tell("best", store);
            tell("bestLeaving", store, 0);
        }
        tell("run");
        tell("taken");
        for (int store = 0; store < 3; store++) {
            tell("weeksToWait", store);
            tell("sold", store);
        }
    }
}
