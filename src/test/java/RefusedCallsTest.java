import java.util.List;

/**
 * "When a call throws, nothing has changed; of several exceptions it is the first one of the throws clause": every call
 * is refused in seasons of all kinds, and what the planner answers afterwards is held against one that was never asked.
 */
public final class RefusedCallsTest {
    private static final Checks CHECKS = new Checks("RefusedCallsTest");

    /** Numbers that a call takes, of which each is in turn put out of its range, from a least to a most. */
    private record Ranges(String name, int[] numbers, int[] least, int[] most) {
    }

    private static final List<Ranges> RANGES = List.of(
            new Ranges("begin", new int[] {3}, new int[] {1}, new int[] {10}),
            new Ranges("setPrice", new int[] {4, 3}, new int[] {0, 0}, new int[] {4, 1000}),
            new Ranges("setDemand", new int[] {1, 2, 13}, new int[] {0, 0, 0}, new int[] {2, 4, 30}),
            new Ranges("setRules", new int[] {4, 19, 23}, new int[] {1, 0, 0}, new int[] {4, 1000, 100}),
            new Ranges("put", new int[] {1, 2, 5}, new int[] {0, 0, 1}, new int[] {2, 2, 40}),
            new Ranges("markDown", new int[] {2, 4}, new int[] {0, 0}, new int[] {2, 4}),
            new Ranges("move", new int[] {1, 2, 1, 2}, new int[] {0, 0, 0, 1}, new int[] {2, 2, 2, 40}),
            new Ranges("stock", new int[] {1, 1}, new int[] {0, 0}, new int[] {2, 2}),
            new Ranges("step", new int[] {1}, new int[] {0}, new int[] {2}),
            new Ranges("weeksToWait", new int[] {1}, new int[] {0}, new int[] {2}),
            new Ranges("sold", new int[] {1}, new int[] {0}, new int[] {2}),
            new Ranges("wouldSell", new int[] {1, 3}, new int[] {0, 0}, new int[] {2, 4}),
            new Ranges("best", new int[] {1}, new int[] {0}, new int[] {2}),
            new Ranges("bestByAll", new int[] {1}, new int[] {0}, new int[] {2}),
            new Ranges("bestLeaving", new int[] {1, 7}, new int[] {0, 0}, new int[] {2, 60}));

    private enum Kind {
        NEW, MIDST, FULL, LAST_WEEK, OVER, BEGUN_ANEW;

        MarkdownPlanner made() {
            switch (this) {
                case MIDST: return midst();
                case FULL: return full();
                case LAST_WEEK: return late(3);
                case OVER: return late(4);
                case BEGUN_ANEW: return begunAnew();
                default: return new MarkdownPlanner();
            }
        }
    }

    public static void main(String[] args) {
        for (Kind kind : Kind.values()) {
            for (Ranges ranges : RANGES) {
                for (int at = 0; at < ranges.numbers().length; at++) {
                    outOfRange(kind, ranges, at);
                    withinTheRange(kind, ranges, at);
                }
            }
            plannedOutOfRange(kind);
            movedToItself(kind);
        }
        refusedPrices();
        refusedStock();
        refusedMarkdowns();
        refusedMoves();
        refusedWeeks();
        refusedLadders();
        manyWrongNumbersAtOnce();
        CHECKS.end();
    }

    /** Week 3 of 7, with markdowns, sales and moves so far. */
    private static MarkdownPlanner midst() {
        MarkdownPlanner x = Planners.withPrices(300, 250, 180, 90, 15);
        x.begin(7);
        x.setRules(3, 11, 6);
        for (int store = 0; store < 3; store++) {
            Planners.demands(x, store, 2, 3 + store, 6, 9, 14 + store);
            Planners.stock(x, store, 14 + store, 12, 8);
        }
        x.run();
        x.markDown(0, 1);
        x.move(2, 1, 0, 5);
        x.run();
        x.markDown(1, 2);
        x.run();
        return x;
    }

    /** Store 0 is full in three sizes, store 1 in one, store 2 is empty. */
    private static MarkdownPlanner full() {
        MarkdownPlanner x = Planners.withLadder();
        x.setRules(1, 5, 9);
        Planners.stock(x, 0, 20, 20, 20);
        Planners.stock(x, 1, 0, 60, 0);
        for (int store = 0; store < 3; store++) {
            Planners.demands(x, store, 3, 5, 8, 12, 20);
        }
        return x;
    }

    /** A season of four weeks of which some were run. */
    private static MarkdownPlanner late(int run) {
        MarkdownPlanner x = Planners.withPrices(100, 90, 90, 40, 0);
        x.setRules(2, 30, 4);
        x.begin(4);
        for (int store = 0; store < 3; store++) {
            Planners.demands(x, store, 3, 4, 5, 6, 7);
            Planners.stock(x, store, 10, 10 + store, 9);
        }
        x.put(2, 0, 29);
        for (int week = 0; week < run; week++) {
            if (week == 2) {
                x.markDown(0, 1);
                x.move(0, 1, 0, 2);
            }
            x.run();
        }
        return x;
    }

    private static MarkdownPlanner begunAnew() {
        MarkdownPlanner x = midst();
        x.begin(10);
        return x;
    }

    private static void dueUnchanged(String what, Kind kind, MarkdownPlanner asked) {
        List<String> want = Afterwards.of(kind.made());
        CHECKS.due(what + ", " + kind + ": afterwards", "", Afterwards.firstDifference(want, Afterwards.of(asked)));
    }

    /** The call is refused so, and the planner answers as if it had never been made. */
    private static void dueRefused(String want, Kind kind, String name, int... numbers) {
        MarkdownPlanner asked = kind.made();
        CHECKS.due(name + List.of(boxed(numbers)) + ", " + kind, want, Calls.answer(asked, name, numbers));
        dueUnchanged(name + List.of(boxed(numbers)), kind, asked);
    }

    private static Integer[] boxed(int[] numbers) {
        Integer[] all = new Integer[numbers.length];
        for (int i = 0; i < numbers.length; i++) {
            all[i] = numbers[i];
        }
        return all;
    }

    private static int[] changed(int[] numbers, int at, int value) {
        int[] others = numbers.clone();
        others[at] = value;
        return others;
    }

    /** The first numbers that are not allowed on both sides, and the farthest. */
    private static void outOfRange(Kind kind, Ranges ranges, int at) {
        MarkdownPlanner asked = kind.made();
        int[] wrong = {ranges.least()[at] - 1, ranges.most()[at] + 1, Integer.MIN_VALUE, Integer.MAX_VALUE};
        for (int value : wrong) {
            String got = Calls.answer(asked, ranges.name(), changed(ranges.numbers(), at, value));
            CHECKS.due(ranges.name() + ", " + value + " at " + at + ", " + kind, Calls.ARGUMENT, got);
        }
        dueUnchanged(ranges.name() + ", number " + at, kind, asked);
    }

    /** The last numbers that are allowed on both sides: another exception may be due, but not this one. */
    private static void withinTheRange(Kind kind, Ranges ranges, int at) {
        for (int value : new int[] {ranges.least()[at], ranges.most()[at]}) {
            int[] numbers = changed(ranges.numbers(), at, value);
            if (ranges.name().equals("move") && numbers[0] == numbers[1]) {
                numbers[1 - at] = 2 - value;
            }
            String got = Calls.answer(kind.made(), ranges.name(), numbers);
            String what = ranges.name() + ", " + value + " at " + at + ", " + kind;
            CHECKS.due(what + ", is in range", 0, got.equals(Calls.ARGUMENT) ? 1 : 0);
        }
    }

    private static void plannedOutOfRange(Kind kind) {
        int[] present = {0, 3, 0, 3, 4, 0};
        int[] weeks = {8, 7, 8, 4, 4, 10};
        int first = present[kind.ordinal()];
        int end = weeks[kind.ordinal()];
        MarkdownPlanner asked = kind.made();
        for (int week : new int[] {first - 1, end, end + 1, Integer.MIN_VALUE, Integer.MAX_VALUE}) {
            CHECKS.due("planned " + week + ", " + kind, Calls.ARGUMENT, Calls.answer(asked, "planned", 0, week));
        }
        for (int store : new int[] {-1, 3, Integer.MIN_VALUE, Integer.MAX_VALUE}) {
            String got = Calls.answer(asked, "planned", store, first);
            CHECKS.due("planned of " + store + ", " + kind, Calls.ARGUMENT, got);
        }
        dueUnchanged("planned", kind, asked);
        MarkdownPlanner other = kind.made();
        for (int week = first; week < end; week++) {
            boolean refused = Calls.answer(other, "planned", 2, week).startsWith("throws.");
            CHECKS.due("planned " + week + ", " + kind + ", is in range", 0, refused ? 1 : 0);
        }
    }

    private static void movedToItself(Kind kind) {
        for (int store = 0; store < 3; store++) {
            dueRefused(Calls.ARGUMENT, kind, "move", store, store, 0, 1);
            dueRefused(Calls.ARGUMENT, kind, "move", store, store, 2, 40);
        }
    }

    private static void refusedPrices() {
        dueRefused(Calls.STATE, Kind.NEW, "setPrice", 0, 99);
        dueRefused(Calls.STATE, Kind.NEW, "setPrice", 2, 99);
        dueRefused(Calls.STATE, Kind.NEW, "setPrice", 2, 101);
        dueRefused(Calls.STATE, Kind.NEW, "setPrice", 4, 101);
        for (Kind kind : new Kind[] {Kind.MIDST, Kind.BEGUN_ANEW}) {
            dueRefused(Calls.STATE, kind, "setPrice", 0, 249);
            dueRefused(Calls.STATE, kind, "setPrice", 1, 301);
            dueRefused(Calls.STATE, kind, "setPrice", 1, 179);
            dueRefused(Calls.STATE, kind, "setPrice", 3, 181);
            dueRefused(Calls.STATE, kind, "setPrice", 3, 14);
            dueRefused(Calls.STATE, kind, "setPrice", 4, 91);
        }
        dueRefused(Calls.STATE, Kind.OVER, "setPrice", 2, 91);
        dueRefused(Calls.STATE, Kind.OVER, "setPrice", 1, 89);
    }

    private static void refusedStock() {
        for (int size = 0; size < 3; size++) {
            dueRefused(Calls.STATE, Kind.FULL, "put", 0, size, 1);
            dueRefused(Calls.STATE, Kind.FULL, "put", 1, size, 40);
        }
        dueRefused(Calls.STATE, Kind.MIDST, "put", 1, 0, 40);
        // 60 pieces less 3 in each of four weeks.
        dueRefused(Calls.STATE, Kind.OVER, "put", 2, 2, 13);
        CHECKS.due("put 2 2 12, OVER", "21", Calls.answer(Kind.OVER.made(), "put", 2, 2, 12));
    }

    private static void refusedMarkdowns() {
        dueRefused(Calls.STATE, Kind.NEW, "markDown", 0, 0);
        dueRefused(Calls.STATE, Kind.MIDST, "markDown", 0, 1);
        dueRefused(Calls.STATE, Kind.MIDST, "markDown", 0, 0);
        dueRefused(Calls.STATE, Kind.MIDST, "markDown", 0, 2);
        dueRefused(Calls.STATE, Kind.MIDST, "markDown", 1, 4);
        dueRefused(Calls.STATE, Kind.MIDST, "markDown", 2, 0);
        dueRefused(Calls.STATE, Kind.LAST_WEEK, "markDown", 0, 4);
        dueRefused(Calls.STATE, Kind.BEGUN_ANEW, "markDown", 0, 0);
        for (int store = 0; store < 3; store++) {
            dueRefused(Calls.STATE, Kind.OVER, "markDown", store, 4);
        }
    }

    private static void refusedMoves() {
        dueRefused(Calls.STATE, Kind.NEW, "move", 0, 1, 0, 1);
        dueRefused(Calls.STATE, Kind.MIDST, "move", 0, 1, 0, 40);
        dueRefused(Calls.STATE, Kind.FULL, "move", 0, 1, 0, 1);
        dueRefused(Calls.STATE, Kind.FULL, "move", 1, 0, 1, 40);
        dueRefused(Calls.STATE, Kind.FULL, "move", 0, 2, 2, 21);
        dueRefused(Calls.STATE, Kind.FULL, "move", 1, 2, 0, 1);
        dueRefused(Calls.STATE, Kind.FULL, "move", 2, 0, 0, 1);
        for (int from = 0; from < 3; from++) {
            dueRefused(Calls.STATE, Kind.OVER, "move", from, (from + 1) % 3, 1, 1);
            dueRefused(Calls.STATE, Kind.OVER, "move", from, (from + 2) % 3, 1, 1);
        }
    }

    private static void refusedWeeks() {
        dueRefused(Calls.STATE, Kind.OVER, "run");
    }

    private static void refusedLadders() {
        for (int store = 0; store < 3; store++) {
            dueRefused(Calls.STATE, Kind.NEW, "bestByAll", store);
            dueRefused(Calls.STATE, Kind.FULL, "bestByAll", store);
            dueRefused(Calls.STATE, Kind.BEGUN_ANEW, "bestByAll", store);
        }
    }

    /** Where both exceptions could be due, and where several numbers are wrong at once. */
    private static void manyWrongNumbersAtOnce() {
        for (Kind kind : Kind.values()) {
            dueRefused(Calls.ARGUMENT, kind, "setPrice", 5, 1001);
            dueRefused(Calls.ARGUMENT, kind, "setPrice", 4, 1001);
            dueRefused(Calls.ARGUMENT, kind, "setPrice", 0, -1);
            dueRefused(Calls.ARGUMENT, kind, "setDemand", 3, 5, 31);
            dueRefused(Calls.ARGUMENT, kind, "setRules", 0, -1, -1);
            dueRefused(Calls.ARGUMENT, kind, "setRules", 5, 1001, 101);
            dueRefused(Calls.ARGUMENT, kind, "put", 3, 3, 41);
            dueRefused(Calls.ARGUMENT, kind, "put", 0, 3, 40);
            dueRefused(Calls.ARGUMENT, kind, "put", 1, 0, Integer.MAX_VALUE);
            dueRefused(Calls.ARGUMENT, kind, "markDown", -1, 0);
            dueRefused(Calls.ARGUMENT, kind, "markDown", 0, 5);
            dueRefused(Calls.ARGUMENT, kind, "move", 0, 1, 3, 40);
            dueRefused(Calls.ARGUMENT, kind, "move", 0, 3, 0, 40);
            dueRefused(Calls.ARGUMENT, kind, "move", 3, 3, 3, 41);
            dueRefused(Calls.ARGUMENT, kind, "bestByAll", 3);
            dueRefused(Calls.ARGUMENT, kind, "planned", 3, 10);
            dueRefused(Calls.ARGUMENT, kind, "bestLeaving", 3, 61);
        }
    }
}
