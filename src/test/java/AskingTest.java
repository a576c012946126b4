/** Promises 13 to 15: what is asked without a plan. */
public final class AskingTest {
    private static final Class<IndexOutOfBoundsException> INDEX = IndexOutOfBoundsException.class;
    private static final Check check = new Check();

    public static void main(String[] args) {
        promise13Refused();
        promise13GreatestOfLeast();
        promise14Together();
        promise15Count();
        promise15CountOfPlan();
        check.end("AskingTest");
    }

    private static void promise13Refused() {
        TrainLoads x = new TrainLoads();
        check.dueThrow("refused: no box", () -> x.refused(0), INDEX);
        x.box(2, 10, 10, 0, 50);
        check.dueThrow("refused: box 1", () -> x.refused(1), INDEX);
        check.dueThrow("refused: box -1", () -> x.refused(-1), INDEX);
        check.dueThrow("refused: box 8", () -> x.refused(8), INDEX);
        check.due("refused: no wagons", x.refused(0), 4);
        x.wagon(30, 10, 1, 10);
        check.due("refused: no pattern", x.refused(0), 1);
        x.pattern(0, 131);
        check.due("refused: no pattern with its size", x.refused(0), 1);
        x.pattern(0, 12);
        check.due("refused: it can", x.refused(0), 0);
        x.out(0, true);
        check.due("refused: wagons that are out count", x.refused(0), 0);
        x.cut(0);
        check.due("refused: the cut-off does not", x.refused(0), 0);
    }

    private static void promise13GreatestOfLeast() {
        TrainLoads x = new TrainLoads();
        x.wagon(30, 10, 1, 10);
        x.pattern(0, 2);
        x.box(2, 11, 11, 0, 0);
        x.box(2, 11, 10, 0, 0);
        x.box(1, 11, 11, 0, 0);
        x.box(2, 10, 11, 0, 0);
        check.due("refused: gauge before weight", x.refused(0), 2);
        check.due("refused: weight", x.refused(1), 3);
        check.due("refused: pattern before all", x.refused(2), 1);
        check.due("refused: gauge", x.refused(3), 2);
        x.wagon(30, 10, 1, 100);
        x.pattern(1, 2);
        check.due("refused: weight on another wagon", x.refused(0), 3);
        check.due("refused: another wagon takes it", x.refused(3), 0);
        x.wagon(30, 10, 1, 1);
        x.pattern(2, 1);
        check.due("refused: greatest is not the last", x.refused(0), 3);
        check.due("refused: gauge of the last", x.refused(2), 2);
    }

    private static void promise14Together() {
        TrainLoads x = new TrainLoads();
        check.dueThrow("together: no boxes", () -> x.together(0, 0) ? 1 : 0, INDEX);
        for (int danger = 0; danger <= 3; danger++) {
            x.box(1, 1, 1, danger, 1);
        }
        x.box(1, 1, 1, 2, 1);
        check.dueThrow("together: box 5", () -> x.together(0, 5) ? 1 : 0, INDEX);
        check.dueThrow("together: box -1", () -> x.together(-1, 0) ? 1 : 0, INDEX);
        check.due("together: no rules", x.together(1, 2), true);
        x.rule(1, 2, 1);
        x.rule(2, 3, 2);
        x.rule(2, 2, 1);
        check.due("together: rule 1", x.together(1, 2) || x.together(2, 1) || x.together(4, 1), false);
        check.due("together: rule 2", x.together(2, 3) || x.together(3, 2) || x.together(3, 4), false);
        check.due("together: a kind with itself", x.together(2, 4), false);
        check.due("together: other kinds", x.together(1, 3) && x.together(3, 1), true);
        for (int box = 0; box < 5; box++) {
            check.due("together: without danger", x.together(0, box) && x.together(box, 0), true);
        }
    }

    private static void promise15Count() {
        TrainLoads x = new TrainLoads();
        for (int what = 5; what < 20; what++) {
            check.due("count of nothing: " + what, x.count(what), -1);
        }
        check.due("count: -1", x.count(-1), -1);
        check.due("count: greatest", x.count(Integer.MAX_VALUE), -1);
        x.wagon(30, 1, 1, 1);
        x.wagon(30, 1, 1, 1);
        x.pattern(1, 1);
        x.pattern(1, 2);
        check.due("count: wagons", x.count(0), 2);
        check.due("count: patterns of 0", x.count(10), 0);
        check.due("count: patterns of 1", x.count(11), 2);
        check.due("count: patterns of 2", x.count(12), -1);
        // what - 10 wraps round to a great number here.
        check.due("count: least", x.count(Integer.MIN_VALUE), -1);
        check.due("count: 9", x.count(9), -1);
    }

    private static void promise15CountOfPlan() {
        TrainLoads x = new TrainLoads();
        x.wagon(30, 10, 1, 1);
        x.pattern(0, 13);
        x.box(3, 1, 1, 0, 0);
        x.box(1, 1, 1, 0, 0);
        x.box(1, 1, 1, 0, 0);
        check.due("count: boxes", x.count(1), 3);
        check.due("count: loaded, no plan", x.count(2), -1);
        check.due("count: length, no plan", x.count(3), -1);
        check.due("count: no plan", x.count(4), 0);
        x.plan();
        check.due("count: loaded", x.count(2), 2);
        check.due("count: length", x.count(3), 13);
        check.due("count: plan", x.count(4), 1);
        x.cut(0);
        check.due("count: loaded, void", x.count(2), -1);
        check.due("count: length, void", x.count(3), -1);
    }
}
