/** Each promise of the document by hand-told runs: ordinary inputs, the edges that it names, and wrong inputs. */
public final class PromisesTest {
    private static final Checks CHECKS = new Checks("PromisesTest");
    private static final int LOW = Integer.MIN_VALUE;
    private static final int HIGH = Integer.MAX_VALUE;

    public static void main(String[] args) {
        promise1NewObject();
        promise2Begin();
        promise3SetPrice();
        promise4SetDemand();
        promise5SetRules();
        promise6Put();
        promise7MarkDown();
        promise8Move();
        promise9Run();
        promise9PieceByPiece();
        promise10Week();
        promise11Stock();
        promise12Step();
        promise13WeeksToWait();
        promise14Sold();
        promise15Taken();
        promise16WouldSell();
        promise17Best();
        promise17BestKeepsTheGap();
        promise18BestByAll();
        promise19Planned();
        promise20BestLeaving();
        firstExceptionOfTheClause();
        CHECKS.end();
    }

    private static void due(String what, long want, long got) {
        CHECKS.due(what, want, got);
    }

    private static void promise1NewObject() {
        MarkdownPlanner x = new MarkdownPlanner();
        due("1: week", 0, x.week());
        due("1: taken", 0, x.taken());
        for (int store = 0; store < 3; store++) {
            due("1: step", 0, x.step(store));
            due("1: sold", 0, x.sold(store));
            due("1: wait", 0, x.weeksToWait(store));
            for (int size = 0; size < 3; size++) {
                due("1: stock", 0, x.stock(store, size));
            }
            for (int step = 0; step < 5; step++) {
                due("1: demand", 0, x.setDemand(store, step, 0));
            }
        }
        for (int step = 0; step < 5; step++) {
            due("1: price", 100, x.setPrice(step, 100));
        }
        due("1: planned in the last week", 0, x.planned(0, 7));
        CHECKS.argument("1: no week 8", () -> x.planned(0, 8));
        x.put(0, 0, 1);
        due("1: remnant price", 0, x.bestLeaving(0, 60));
        due("1: moving", 0, x.move(0, 1, 0, 1));
        x.markDown(2, 1);
        due("1: gap", 2, x.weeksToWait(2));
        Planners.runWeeks(x, 8);
        CHECKS.state("1: 8 weeks", x::run);
    }

    private static void promise2Begin() {
        MarkdownPlanner x = Planners.withLadder();
        for (int weeks : new int[] {LOW, -1, 0, 11, HIGH}) {
            CHECKS.argument("2: begin " + weeks, () -> x.begin(weeks));
        }
        x.setRules(3, 5, 7);
        Planners.demands(x, 0, 3, 6, 9, 12, 15);
        x.put(0, 0, 10);
        x.put(0, 1, 10);
        x.put(0, 2, 10);
        x.markDown(0, 2);
        Planners.runWeeks(x, 2);
        x.move(0, 1, 0, 1);
        CHECKS.argument("2: begin 11", () -> x.begin(11));
        due("2: week after a throw", 2, x.week());
        due("2: taken after a throw", 9 * 60 * 2 - 7, x.taken());
        due("2: weeks run", 2, x.begin(10));
        due("2: week", 0, x.week());
        due("2: step", 0, x.step(0));
        due("2: wait", 0, x.weeksToWait(0));
        due("2: sold", 0, x.sold(0));
        due("2: taken", 0, x.taken());
        due("2: stock stays", 11, x.stock(0, 0) + x.stock(0, 1) + x.stock(0, 2));
        due("2: what was moved stays", 1, x.stock(1, 0));
        due("2: price stays", 60, x.setPrice(2, 60));
        due("2: demand stays", 9, x.setDemand(0, 2, 9));
        due("2: moving stays", 7, x.move(1, 2, 0, 1));
        due("2: remnant stays", 5, x.best(2));
        x.markDown(0, 1);
        due("2: gap stays", 3, x.weeksToWait(0));
        due("2: none run", 0, x.begin(1));
        due("2: the one week, 9 at 60", 2, x.planned(0, 0));
        CHECKS.argument("2: one week", () -> x.planned(0, 1));
        x.run();
        CHECKS.state("2: over", x::run);
        due("2: all run", 1, x.begin(10));
        Planners.runWeeks(x, 10);
        CHECKS.state("2: over after 10", x::run);
        due("2: ten run", 10, x.begin(8));
    }

    private static void promise3SetPrice() {
        MarkdownPlanner x = new MarkdownPlanner();
        for (int step : new int[] {LOW, -1, 5, HIGH}) {
            CHECKS.argument("3: step " + step, () -> x.setPrice(step, 100));
        }
        for (int price : new int[] {LOW, -1, 1001, HIGH}) {
            CHECKS.argument("3: price " + price, () -> x.setPrice(0, price));
            CHECKS.argument("3: price " + price, () -> x.setPrice(4, price));
        }
        CHECKS.state("3: below the next", () -> x.setPrice(0, 99));
        CHECKS.state("3: above the one before", () -> x.setPrice(4, 101));
        CHECKS.state("3: above in the middle", () -> x.setPrice(2, 101));
        CHECKS.state("3: below in the middle", () -> x.setPrice(2, 99));
        due("3: first", 100, x.setPrice(0, 1000));
        due("3: last", 100, x.setPrice(4, 0));
        due("3: again", 1000, x.setPrice(0, 999));
        due("3: as the one before", 100, x.setPrice(1, 999));
        CHECKS.state("3: one above the one before", () -> x.setPrice(1, 1000));
        due("3: as the next one", 999, x.setPrice(1, 100));
        CHECKS.state("3: one below the next one", () -> x.setPrice(1, 99));
        due("3: in between", 100, x.setPrice(1, 500));
        due("3: not changed by throws", 500, x.setPrice(1, 500));
        due("3: last not changed", 0, x.setPrice(4, 100));
        Planners.demands(x, 0, 3, 3, 3, 3, 3);
        x.put(0, 0, 9);
        due("3: sold at it", 999, x.run());
        due("3: marked down to it", 500, x.markDown(0, 1));
        due("3: sold at the next", 500, x.run());
        x.setPrice(1, 400);
        due("3: sold at the new one", 400, x.run());
    }

    private static void promise4SetDemand() {
        MarkdownPlanner x = new MarkdownPlanner();
        for (int store : new int[] {LOW, -1, 3, HIGH}) {
            CHECKS.argument("4: store " + store, () -> x.setDemand(store, 0, 1));
        }
        for (int step : new int[] {LOW, -1, 5, HIGH}) {
            CHECKS.argument("4: step " + step, () -> x.setDemand(0, step, 1));
        }
        for (int pieces : new int[] {LOW, -1, 31, HIGH}) {
            CHECKS.argument("4: pieces " + pieces, () -> x.setDemand(0, 0, pieces));
        }
        for (int store = 0; store < 3; store++) {
            for (int step = 0; step < 5; step++) {
                due("4: first", 0, x.setDemand(store, step, 5 * store + step + 1));
            }
        }
        for (int store = 0; store < 3; store++) {
            for (int step = 0; step < 5; step++) {
                due("4: before", 5 * store + step + 1, x.setDemand(store, step, 30));
                due("4: most", 30, x.setDemand(store, step, 0));
            }
        }
    }

    private static void promise5SetRules() {
        MarkdownPlanner x = new MarkdownPlanner();
        x.put(0, 0, 10);
        x.markDown(1, 1);
        x.setRules(3, 11, 13);
        for (int gap : new int[] {LOW, -1, 0, 5, HIGH}) {
            CHECKS.argument("5: gap " + gap, () -> x.setRules(gap, 1, 1));
        }
        for (int remnant : new int[] {LOW, -1, 1001, HIGH}) {
            CHECKS.argument("5: remnant " + remnant, () -> x.setRules(1, remnant, 1));
        }
        for (int moving : new int[] {LOW, -1, 101, HIGH}) {
            CHECKS.argument("5: moving " + moving, () -> x.setRules(1, 1, moving));
        }
        due("5: gap", 3, x.weeksToWait(1));
        due("5: remnant", 110, x.best(0));
        due("5: moving", 26, x.move(0, 2, 0, 2));
        x.setRules(1, 0, 0);
        due("5: least gap", 1, x.weeksToWait(1));
        due("5: least remnant", 0, x.best(0));
        due("5: least moving", 0, x.move(0, 2, 0, 2));
        x.setRules(4, 1000, 100);
        due("5: most gap", 4, x.weeksToWait(1));
        due("5: most remnant", 6000, x.best(0));
        due("5: most moving", 200, x.move(0, 2, 0, 2));
    }

    private static void promise6Put() {
        MarkdownPlanner x = new MarkdownPlanner();
        for (int wrong : new int[] {LOW, -1, 3, HIGH}) {
            CHECKS.argument("6: store " + wrong, () -> x.put(wrong, 0, 1));
            CHECKS.argument("6: size " + wrong, () -> x.put(0, wrong, 1));
        }
        for (int pieces : new int[] {LOW, -1, 0, 41, HIGH}) {
            CHECKS.argument("6: pieces " + pieces, () -> x.put(0, 0, pieces));
        }
        due("6: most", 40, x.put(0, 2, 40));
        due("6: least", 1, x.put(0, 1, 1));
        due("6: more", 3, x.put(0, 1, 2));
        CHECKS.state("6: one too many", () -> x.put(0, 0, 18));
        due("6: nothing put", 0, x.stock(0, 0));
        due("6: full", 17, x.put(0, 0, 17));
        CHECKS.state("6: above full", () -> x.put(0, 0, 1));
        due("6: another store", 40, x.put(1, 0, 40));
        due("6: one size to the most", 60, x.put(1, 0, 20));
        Planners.runWeeks(x, 8);
        due("6: when it is over", 1, x.put(2, 0, 1));
    }

    private static void promise7MarkDown() {
        MarkdownPlanner x = Planners.withLadder();
        for (int store : new int[] {LOW, -1, 3, HIGH}) {
            CHECKS.argument("7: store " + store, () -> x.markDown(store, 1));
        }
        for (int step : new int[] {LOW, -1, 5, HIGH}) {
            CHECKS.argument("7: step " + step, () -> x.markDown(0, step));
        }
        CHECKS.state("7: the same", () -> x.markDown(0, 0));
        due("7: at once", 80, x.markDown(0, 1));
        CHECKS.state("7: in the same week", () -> x.markDown(0, 2));
        x.run();
        CHECKS.state("7: a week too early", () -> x.markDown(0, 2));
        due("7: step after throws", 1, x.step(0));
        due("7: another store, the first time", 20, x.markDown(1, 4));
        x.run();
        CHECKS.state("7: not above", () -> x.markDown(0, 1));
        CHECKS.state("7: below", () -> x.markDown(0, 0));
        due("7: after the gap", 40, x.markDown(0, 3));
        CHECKS.state("7: waits anew", () -> x.markDown(0, 4));
        x.setRules(1, 0, 0);
        x.run();
        due("7: gap as it is now", 20, x.markDown(0, 4));
        Planners.runWeeks(x, 5);
        CHECKS.state("7: over", () -> x.markDown(2, 1));
        due("7: step when over", 0, x.step(2));
        x.begin(3);
        due("7: first of the new season", 60, x.markDown(0, 2));
        x.setRules(4, 0, 0);
        Planners.runWeeks(x, 2);
        CHECKS.state("7: longer gap now", () -> x.markDown(0, 3));
        due("7: none so far", 40, x.markDown(1, 3));
    }

    private static void promise8Move() {
        MarkdownPlanner x = new MarkdownPlanner();
        x.setRules(2, 0, 100);
        x.put(0, 0, 40);
        x.put(0, 1, 20);
        for (int wrong : new int[] {LOW, -1, 3, HIGH}) {
            CHECKS.argument("8: from " + wrong, () -> x.move(wrong, 1, 0, 1));
            CHECKS.argument("8: to " + wrong, () -> x.move(0, wrong, 0, 1));
            CHECKS.argument("8: size " + wrong, () -> x.move(0, 1, wrong, 1));
        }
        for (int pieces : new int[] {LOW, -1, 0, 41, HIGH}) {
            CHECKS.argument("8: pieces " + pieces, () -> x.move(0, 1, 0, pieces));
        }
        CHECKS.argument("8: to itself", () -> x.move(0, 0, 0, 1));
        CHECKS.state("8: not so many", () -> x.move(0, 1, 1, 21));
        CHECKS.state("8: none of the size", () -> x.move(0, 1, 2, 1));
        due("8: all of a size", 2000, x.move(0, 1, 1, 20));
        due("8: given", 0, x.stock(0, 1));
        due("8: got", 20, x.stock(1, 1));
        due("8: paid", -2000, x.taken());
        x.put(1, 2, 1);
        CHECKS.state("8: no room", () -> x.move(0, 1, 0, 40));
        due("8: nothing given", 40, x.stock(0, 0));
        due("8: nothing got", 0, x.stock(1, 0));
        due("8: nothing paid", -2000, x.taken());
        due("8: just room", 3900, x.move(0, 1, 0, 39));
        due("8: a full store gives", 100, x.move(1, 2, 1, 1));
        due("8: back", 100, x.move(1, 0, 0, 1));
        Planners.runWeeks(x, 8);
        CHECKS.state("8: over", () -> x.move(1, 0, 0, 1));
        due("8: stock when over", 38, x.stock(1, 0));
    }

    private static void promise9Run() {
        MarkdownPlanner x = Planners.withLadder();
        Planners.demands(x, 0, 5, 8);
        Planners.demands(x, 1, 30);
        Planners.demands(x, 2, 0, 0, 11);
        x.put(0, 0, 10);
        x.put(0, 1, 10);
        x.put(1, 0, 4);
        x.put(1, 1, 4);
        x.put(1, 2, 4);
        x.put(2, 2, 20);
        x.markDown(2, 2);
        due("9: 10/3, 12 of 30, 11/3", 300 + 1200 + 180, x.run());
        due("9: week", 1, x.week());
        due("9: sold in two sizes", 3, x.sold(0));
        due("9: whole stock", 12, x.sold(1));
        due("9: sold in one size", 3, x.sold(2));
        x.markDown(0, 1);
        due("9: 16/3, none, 11/3", 400 + 180, x.run());
        due("9: taken", 1680 + 580, x.taken());
        Planners.runWeeks(x, 6);
        CHECKS.state("9: over", x::run);
        due("9: week when over", 8, x.week());
    }

    private static void promise9PieceByPiece() {
        MarkdownPlanner x = new MarkdownPlanner();
        Planners.demands(x, 0, 5);
        x.put(0, 0, 2);
        x.put(0, 1, 4);
        x.put(0, 2, 4);
        x.run();
        // 1, 2, 1, 2, then the lowest of three with two pieces each.
        due("9: size 0", 1, x.stock(0, 0));
        due("9: size 1", 2, x.stock(0, 1));
        due("9: size 2", 2, x.stock(0, 2));
        x.run();
        due("9: size 0 then", 0, x.stock(0, 0));
        due("9: size 1 then", 0, x.stock(0, 1));
        due("9: size 2 then", 0, x.stock(0, 2));
        MarkdownPlanner y = new MarkdownPlanner();
        Planners.demands(y, 1, 2);
        y.put(1, 0, 1);
        y.put(1, 1, 1);
        y.put(1, 2, 1);
        due("9: sizes are counted once a week", 200, y.run());
        due("9: the lowest goes first", 0, y.stock(1, 0));
        due("9: then the next", 0, y.stock(1, 1));
        due("9: the last one is left", 1, y.stock(1, 2));
        due("9: 2 times 1 divided by 3", 0, y.run());
    }

    private static void promise10Week() {
        MarkdownPlanner x = new MarkdownPlanner();
        for (int week = 0; week < 8; week++) {
            due("10: week", week, x.week());
            x.run();
        }
        due("10: over", 8, x.week());
        CHECKS.state("10: over", x::run);
        due("10: still over", 8, x.week());
        x.begin(1);
        due("10: anew", 0, x.week());
        x.run();
        due("10: over after one", 1, x.week());
    }

    private static void promise11Stock() {
        MarkdownPlanner x = new MarkdownPlanner();
        for (int wrong : new int[] {LOW, -1, 3, HIGH}) {
            CHECKS.argument("11: store " + wrong, () -> x.stock(wrong, 0));
            CHECKS.argument("11: size " + wrong, () -> x.stock(0, wrong));
        }
        for (int store = 0; store < 3; store++) {
            for (int size = 0; size < 3; size++) {
                x.put(store, size, 3 * store + size + 1);
            }
        }
        for (int store = 0; store < 3; store++) {
            for (int size = 0; size < 3; size++) {
                due("11: stock", 3 * store + size + 1, x.stock(store, size));
            }
        }
    }

    private static void promise12Step() {
        MarkdownPlanner x = new MarkdownPlanner();
        for (int wrong : new int[] {LOW, -1, 3, HIGH}) {
            CHECKS.argument("12: store " + wrong, () -> x.step(wrong));
        }
        x.markDown(0, 4);
        x.markDown(2, 2);
        due("12: last", 4, x.step(0));
        due("12: first", 0, x.step(1));
        due("12: middle", 2, x.step(2));
        Planners.runWeeks(x, 8);
        due("12: stays", 2, x.step(2));
    }

    private static void promise13WeeksToWait() {
        MarkdownPlanner x = new MarkdownPlanner();
        for (int wrong : new int[] {LOW, -1, 3, HIGH}) {
            CHECKS.argument("13: store " + wrong, () -> x.weeksToWait(wrong));
        }
        x.run();
        due("13: none so far", 0, x.weeksToWait(0));
        x.markDown(0, 1);
        due("13: gap", 2, x.weeksToWait(0));
        due("13: another store", 0, x.weeksToWait(1));
        x.setRules(4, 0, 0);
        due("13: gap as it is now", 4, x.weeksToWait(0));
        x.run();
        due("13: one run", 3, x.weeksToWait(0));
        x.setRules(1, 0, 0);
        due("13: a gap of one", 0, x.weeksToWait(0));
        x.setRules(3, 0, 0);
        due("13: a gap of three", 2, x.weeksToWait(0));
        Planners.runWeeks(x, 4);
        due("13: never below 0", 0, x.weeksToWait(0));
    }

    private static void promise14Sold() {
        MarkdownPlanner x = new MarkdownPlanner();
        for (int wrong : new int[] {LOW, -1, 3, HIGH}) {
            CHECKS.argument("14: store " + wrong, () -> x.sold(wrong));
        }
        Planners.demands(x, 1, 6);
        x.put(1, 0, 5);
        x.run();
        due("14: two", 2, x.sold(1));
        x.move(1, 0, 0, 1);
        due("14: moving is no sale", 2, x.sold(1));
        Planners.runWeeks(x, 2);
        due("14: all", 4, x.sold(1));
        due("14: another", 0, x.sold(0));
    }

    private static void promise15Taken() {
        MarkdownPlanner x = Planners.withLadder();
        x.setRules(2, 50, 9);
        Planners.demands(x, 0, 30, 30);
        Planners.demands(x, 1, 3, 3);
        x.put(0, 0, 20);
        x.put(1, 1, 5);
        x.move(0, 2, 0, 3);
        due("15: paid", -27, x.taken());
        x.run();
        due("15: 10 and 1 at 100", 1100 - 27, x.taken());
        x.markDown(0, 1);
        x.run();
        due("15: 7 at 80 and 1 at 100", 1100 - 27 + 560 + 100, x.taken());
        x.setRules(2, 50, 0);
        due("15: cost as it was", 1733, x.taken());
        Planners.runWeeks(x, 6);
        due("15: what is left is not taken", 1733 + 300, x.taken());
    }

    private static void promise16WouldSell() {
        MarkdownPlanner x = new MarkdownPlanner();
        for (int wrong : new int[] {LOW, -1, 3, HIGH}) {
            CHECKS.argument("16: store " + wrong, () -> x.wouldSell(wrong, 0));
        }
        for (int wrong : new int[] {LOW, -1, 5, HIGH}) {
            CHECKS.argument("16: step " + wrong, () -> x.wouldSell(0, wrong));
        }
        Planners.demands(x, 0, 1, 4, 5, 10, 30);
        due("16: no stock", 0, x.wouldSell(0, 4));
        x.put(0, 1, 15);
        int[] oneSize = {0, 1, 1, 3, 10};
        for (int step = 0; step < 5; step++) {
            due("16: one size", oneSize[step], x.wouldSell(0, step));
        }
        x.put(0, 2, 2);
        int[] twoSizes = {0, 2, 3, 6, 17};
        for (int step = 0; step < 5; step++) {
            due("16: two sizes", twoSizes[step], x.wouldSell(0, step));
        }
        x.put(0, 0, 1);
        int[] threeSizes = {1, 4, 5, 10, 18};
        for (int step = 0; step < 5; step++) {
            due("16: three sizes", threeSizes[step], x.wouldSell(0, step));
        }
        x.markDown(0, 3);
        due("16: a lower step too", 4, x.wouldSell(0, 1));
        due("16: asks only", 18, x.wouldSell(0, 4));
        x.begin(1);
        x.setDemand(0, 0, 0);
        x.run();
        due("16: when it is over", 18, x.wouldSell(0, 4));
    }

    private static void promise17Best() {
        MarkdownPlanner x = Planners.withLadder();
        for (int wrong : new int[] {LOW, -1, 3, HIGH}) {
            CHECKS.argument("17: store " + wrong, () -> x.best(wrong));
        }
        due("17: no stock", 0, x.best(0));
        x.put(1, 0, 40);
        x.put(1, 1, 20);
        x.setRules(2, 3, 0);
        due("17: all 60 are left", 180, x.best(1));
        x.setRules(2, 0, 0);
        x.begin(2);
        Planners.demands(x, 0, 1, 2, 4, 7, 30);
        x.put(0, 0, 10);
        // One size only, but the plan sells as if none was lacking: 4 at 60 and 4 at 60 (or 7 at 40 and 3 at 40 ..).
        due("17: two weeks", 480, x.best(0));
        x.setRules(1, 0, 0);
        due("17: with a gap of one: 4 at 60, then 6 at 40", 480, x.best(0));
        x.setRules(1, 30, 0);
        due("17: 4 at 60 twice, 2 at 30", 540, x.best(0));
        x.setRules(1, 1000, 0);
        due("17: least sold: 1 at 100 twice, 8 at 1000", 8200, x.best(0));
        x.setRules(1, 30, 0);
        x.markDown(0, 3);
        due("17: not below its own: 7 at 40, 3 at 40", 400, x.best(0));
        Planners.runWeeks(x, 2);
        due("17: over, 6 at the remnant price", 180, x.best(0));
        x.setRules(1, 0, 0);
        due("17: over, no remnant price", 0, x.best(0));
    }

    private static void promise17BestKeepsTheGap() {
        MarkdownPlanner x = new MarkdownPlanner();
        x.setPrice(4, 5);
        x.setPrice(3, 10);
        x.begin(4);
        Planners.demands(x, 0, 0, 1, 0, 5, 30);
        x.put(0, 0, 30);
        x.setRules(1, 0, 0);
        due("17: 1 at 100 three times, 27 at 5", 435, x.best(0));
        x.markDown(0, 1);
        due("17: just marked down, gap 1", 435, x.best(0));
        x.setRules(4, 0, 0);
        due("17: no later step fits in", 400, x.best(0));
        x.setRules(3, 0, 0);
        due("17: only the last week is free", 435, x.best(0));
        x.setDemand(0, 1, 0);
        due("17: only the last week sells: 30 at 5", 150, x.best(0));
        x.setRules(4, 0, 0);
        due("17: nothing sells", 0, x.best(0));
        x.begin(4);
        due("17: the first time none has to go by: 5 at 10 four times", 200, x.best(0));
    }

    private static void promise18BestByAll() {
        MarkdownPlanner x = Planners.withLadder();
        for (int wrong : new int[] {LOW, -1, 3, HIGH}) {
            CHECKS.argument("18: store " + wrong, () -> x.bestByAll(wrong));
        }
        CHECKS.state("18: 8 weeks are left", () -> x.bestByAll(0));
        Planners.demands(x, 0, 1, 2, 4, 7, 30);
        x.put(0, 0, 40);
        x.put(0, 1, 20);
        x.run();
        CHECKS.state("18: 7 weeks are left", () -> x.bestByAll(0));
        x.run();
        for (int gap = 1; gap <= 4; gap++) {
            x.setRules(gap, 3, 0);
            due("18: 6 weeks are left", x.best(0), x.bestByAll(0));
        }
        x.begin(7);
        CHECKS.state("18: 7 weeks", () -> x.bestByAll(0));
        x.begin(2);
        x.setRules(2, 0, 0);
        due("18: 30 at 20 twice", 1200, x.bestByAll(0));
        x.setDemand(0, 4, 0);
        due("18: 7 at 40 twice", 560, x.bestByAll(0));
        x.setRules(1, 5, 0);
        due("18: 7 at 40 twice, 46 at 5", 790, x.bestByAll(0));
        x.markDown(0, 4);
        due("18: nothing sells at its own step", 300, x.bestByAll(0));
        promise18KeepsTheGap();
        Planners.runWeeks(x, 2);
        x.setRules(2, 9, 0);
        due("18: over, 60 at 9", 540, x.bestByAll(0));
    }

    private static void promise18KeepsTheGap() {
        MarkdownPlanner x = new MarkdownPlanner();
        x.setPrice(4, 5);
        x.begin(4);
        Planners.demands(x, 0, 0, 1, 0, 0, 30);
        x.put(0, 0, 30);
        int[] byGap = {435, 435, 435, 400};
        for (int gap = 1; gap <= 4; gap++) {
            x.setRules(gap, 0, 0);
            due("18: 1 at 100, then 30 at 5, gap " + gap, byGap[gap - 1], x.bestByAll(0));
        }
        x.markDown(0, 1);
        for (int gap = 1; gap <= 4; gap++) {
            x.setRules(gap, 0, 0);
            due("18: the same when marked down, gap " + gap, byGap[gap - 1], x.bestByAll(0));
        }
        x.setDemand(0, 1, 0);
        due("18: nothing sells within the gap", 0, x.bestByAll(0));
        x.setRules(3, 0, 0);
        due("18: the last week sells", 150, x.bestByAll(0));
    }

    private static void promise19Planned() {
        MarkdownPlanner x = new MarkdownPlanner();
        x.begin(4);
        for (int wrong : new int[] {LOW, -1, 3, HIGH}) {
            CHECKS.argument("19: store " + wrong, () -> x.planned(wrong, 0));
        }
        for (int wrong : new int[] {LOW, -1, 4, HIGH}) {
            CHECKS.argument("19: week " + wrong, () -> x.planned(0, wrong));
        }
        x.setPrice(4, 5);
        x.setPrice(3, 10);
        Planners.demands(x, 0, 0, 1, 0, 5, 30);
        x.put(0, 0, 30);
        x.setRules(1, 0, 0);
        duePlan("19: gap 1", x, 1, 1, 1, 4);
        x.setRules(3, 0, 0);
        duePlan("19: gap 3", x, 1, 1, 1, 4);
        x.setRules(4, 0, 0);
        duePlan("19: gap 4", x, 1, 1, 1, 1);
        x.run();
        CHECKS.argument("19: a week that is run", () -> x.planned(0, 0));
        duePlan("19: from the present week", x, 1, 1, 1);
        Planners.runWeeks(x, 3);
        CHECKS.argument("19: over", () -> x.planned(0, 4));
        CHECKS.argument("19: over, last week", () -> x.planned(0, 3));
        promise19LowerOfSeveral();
        promise19KeepsTheGap();
    }

    private static void promise19KeepsTheGap() {
        MarkdownPlanner x = new MarkdownPlanner();
        x.setPrice(4, 5);
        x.begin(5);
        Planners.demands(x, 0, 1, 0, 0, 0, 21);
        x.put(0, 0, 30);
        x.setRules(3, 0, 0);
        duePlan("19: staying is no markdown", x, 0, 0, 0, 0, 4);
        Planners.demands(x, 0, 0, 1, 0, 0, 21);
        x.markDown(0, 1);
        duePlan("19: free two weeks before the end", x, 1, 1, 1, 1, 4);
        x.setDemand(0, 1, 0);
        duePlan("19: waits until the gap has gone by", x, 1, 1, 1, 4, 4);
        x.setDemand(0, 4, 8);
        x.run();
        duePlan("19: waits two weeks more", x, 1, 1, 4, 4);
        x.setRules(1, 0, 0);
        duePlan("19: need not wait", x, 4, 4, 4, 4);
        promise19TwoMarkdowns();
    }

    private static void promise19TwoMarkdowns() {
        MarkdownPlanner x = new MarkdownPlanner();
        x.setPrice(4, 6);
        x.setPrice(3, 50);
        x.begin(5);
        x.put(0, 0, 40);
        x.put(0, 1, 20);
        Planners.demands(x, 0, 0, 1, 0, 3, 30);
        duePlan("19: 3 at 50 four times, 30 at 6", x, 3, 3, 3, 3, 4);
        x.setPrice(3, 30);
        duePlan("19: 1 at 100 three times, 57 at 6", x, 1, 1, 1, 4, 4);
        x.setRules(4, 0, 0);
        duePlan("19: four weeks between the two", x, 1, 1, 1, 1, 4);
    }

    private static void promise19LowerOfSeveral() {
        MarkdownPlanner x = new MarkdownPlanner();
        x.begin(3);
        x.put(0, 0, 6);
        duePlan("19: none sells", x, 0, 0, 0);
        Planners.demands(x, 0, 2, 2, 2, 2, 2);
        duePlan("19: all sell the same", x, 0, 0, 0);
        Planners.demands(x, 0, 2, 3, 6, 6, 6);
        duePlan("19: the first is enough", x, 0, 0, 0);
        Planners.demands(x, 0, 1, 3, 6, 6, 6);
        duePlan("19: the higher step comes late", x, 0, 0, 2);
        x.setRules(1, 100, 0);
        duePlan("19: the remnant price is as good", x, 0, 0, 0);
        x.markDown(0, 1);
        duePlan("19: its own step", x, 1, 1, 1);
        x.setRules(1, 0, 0);
        Planners.demands(x, 0, 1, 0, 1, 2, 6);
        duePlan("19: waits in its own step", x, 1, 1, 4);
    }

    private static void duePlan(String what, MarkdownPlanner x, int... steps) {
        for (int i = 0; i < steps.length; i++) {
            int week = x.week() + i;
            due(what + ", week " + week, steps[i], x.planned(0, week));
        }
    }

    private static void promise20BestLeaving() {
        MarkdownPlanner x = Planners.withLadder();
        for (int wrong : new int[] {LOW, -1, 3, HIGH}) {
            CHECKS.argument("20: store " + wrong, () -> x.bestLeaving(wrong, 0));
        }
        for (int wrong : new int[] {LOW, -1, 61, HIGH}) {
            CHECKS.argument("20: left " + wrong, () -> x.bestLeaving(0, wrong));
        }
        due("20: no stock leaves none", 0, x.bestLeaving(0, 0));
        x.begin(2);
        Planners.demands(x, 0, 1, 2, 4, 7, 9);
        x.put(0, 0, 20);
        due("20: 14 at 40", 560, x.bestLeaving(0, 60));
        due("20: 14 at 40 leave 6", 560, x.bestLeaving(0, 6));
        due("20: 18 at 20", 360, x.bestLeaving(0, 5));
        due("20: 18 at 20 leave 2", 360, x.bestLeaving(0, 2));
        due("20: none leaves 1", -1, x.bestLeaving(0, 1));
        x.setRules(1, 0, 0);
        due("20: 7 at 40, 9 at 20", 460, x.bestLeaving(0, 5));
        due("20: the same leaves 4", 460, x.bestLeaving(0, 4));
        x.setRules(1, 200, 0);
        due("20: a promise costs", 360 + 400, x.bestLeaving(0, 2));
        due("20: with the remnant price", 200 + 18 * 200, x.bestLeaving(0, 18));
        x.setDemand(0, 0, 0);
        x.setDemand(0, 1, 0);
        x.setDemand(0, 2, 0);
        x.setDemand(0, 3, 0);
        x.setDemand(0, 4, 0);
        due("20: all is left", 4000, x.bestLeaving(0, 20));
        due("20: less is not to be had", -1, x.bestLeaving(0, 19));
        Planners.runWeeks(x, 2);
        due("20: over", 4000, x.bestLeaving(0, 20));
        due("20: over, too many are left", -1, x.bestLeaving(0, 19));
        x.setRules(1, 0, 0);
        due("20: over, worth nothing", 0, x.bestLeaving(0, 60));
    }

    /** Where a call could throw both, the first one of the throws clause is due. */
    private static void firstExceptionOfTheClause() {
        MarkdownPlanner x = new MarkdownPlanner();
        CHECKS.argument("setPrice: both", () -> x.setPrice(4, 1001));
        x.put(0, 0, 40);
        x.put(0, 1, 20);
        CHECKS.argument("put: both", () -> x.put(0, 3, 40));
        CHECKS.argument("put: both", () -> x.put(0, 0, 41));
        CHECKS.argument("bestByAll: both", () -> x.bestByAll(3));
        Planners.runWeeks(x, 8);
        CHECKS.argument("markDown: both", () -> x.markDown(0, 5));
        CHECKS.argument("markDown: both", () -> x.markDown(3, 1));
        CHECKS.argument("move: both", () -> x.move(0, 0, 0, 1));
        CHECKS.argument("move: both", () -> x.move(0, 1, 3, 1));
        CHECKS.argument("move: both", () -> x.move(0, 1, 0, 41));
    }
}
