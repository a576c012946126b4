import java.util.NoSuchElementException;

/** Promises 1 to 7: what is told, what can't be told, and what makes a plan void. */
public final class TellingTest {
    private static final Class<IllegalArgumentException> ARGUMENT = IllegalArgumentException.class;
    private static final Class<IllegalStateException> STATE = IllegalStateException.class;
    private static final Check check = new Check();

    public static void main(String[] args) {
        promise1NewObject();
        promise2Wagon();
        promise2WrongWagons();
        promise3Pattern();
        promise3WrongPatterns();
        promise4Box();
        promise4WrongBoxes();
        promise5Rule();
        promise5RuleOverwritten();
        promise6Cut();
        promise7Out();
        planBecomesVoid();
        planStays();
        check.end("TellingTest");
    }

    private static void promise1NewObject() {
        TrainLoads x = new TrainLoads();
        check.due("new: wagons", x.count(0), 0);
        check.due("new: boxes", x.count(1), 0);
        check.due("new: no plan", x.count(4), 0);
        check.due("new: NONE", TrainLoads.NONE, -1);
        // The cut-off of a new object lets the last day pass, and no kind has a rule.
        x.wagon(16, 10, 1, 1);
        x.pattern(0, 1111);
        x.box(1, 1, 1, 1, 1000000000L);
        x.box(1, 1, 1, 1, 0);
        x.box(1, 1, 1, 2, 0);
        x.box(1, 1, 1, 3, 0);
        check.due("new: cut-off and rules", x.plan(), 16);
        TrainLoads other = new TrainLoads();
        check.due("new: nothing shared with another object", other.count(0) + other.count(1), 0);
    }

    private static void promise2Wagon() {
        TrainLoads x = new TrainLoads();
        check.due("wagon: least numbers", x.wagon(1, 0, 0, 1), 0);
        check.due("wagon: greatest numbers", x.wagon(30, 1000000, 8, 100), 1);
        check.due("wagon: third", x.wagon(5, 5, 5, 5), 2);
        check.due("wagon: three", x.count(0), 3);
        check.dueThrow("wagon: fourth", () -> x.wagon(5, 5, 5, 5), STATE);
        check.dueThrow("wagon: fourth and wrong", () -> x.wagon(0, 5, 5, 5), ARGUMENT);
        check.due("wagon: still three", x.count(0), 3);
        check.due("wagon: no patterns", x.count(10), 0);
    }

    private static void promise2WrongWagons() {
        TrainLoads x = new TrainLoads();
        check.dueThrow("wagon: length 0", () -> x.wagon(0, 1, 1, 1), ARGUMENT);
        check.dueThrow("wagon: length 31", () -> x.wagon(31, 1, 1, 1), ARGUMENT);
        check.dueThrow("wagon: least length", () -> x.wagon(Integer.MIN_VALUE, 1, 1, 1), ARGUMENT);
        check.dueThrow("wagon: weight -1", () -> x.wagon(1, -1, 1, 1), ARGUMENT);
        check.dueThrow("wagon: weight 1000001", () -> x.wagon(1, 1000001, 1, 1), ARGUMENT);
        check.dueThrow("wagon: weight beyond int", () -> x.wagon(1, 1L << 32, 1, 1), ARGUMENT);
        check.dueThrow("wagon: axles -1", () -> x.wagon(1, 1, -1, 1), ARGUMENT);
        check.dueThrow("wagon: axles 9", () -> x.wagon(1, 1, 9, 1), ARGUMENT);
        check.dueThrow("wagon: gauge 0", () -> x.wagon(1, 1, 1, 0), ARGUMENT);
        check.dueThrow("wagon: gauge 101", () -> x.wagon(1, 1, 1, 101), ARGUMENT);
        check.due("wagon: wrong ones leave none", x.count(0), 0);
    }

    private static void promise3Pattern() {
        TrainLoads x = new TrainLoads();
        x.wagon(16, 1, 1, 1);
        x.wagon(27, 1, 1, 1);
        check.due("pattern: 1111 of 16", x.pattern(0, 1111), 0);
        check.due("pattern: the same again", x.pattern(0, 1111), 1);
        check.due("pattern: 22 of 16", x.pattern(0, 22), 2);
        check.due("pattern: another wagon", x.pattern(1, 333), 0);
        check.due("pattern: 13 of 16", x.pattern(0, 13), 3);
        check.dueThrow("pattern: fifth", () -> x.pattern(0, 1), STATE);
        check.dueThrow("pattern: fifth and too long", () -> x.pattern(0, 23), ARGUMENT);
        check.due("pattern: four", x.count(10), 4);
        check.due("pattern: one", x.count(11), 1);
    }

    private static void promise3WrongPatterns() {
        TrainLoads x = new TrainLoads();
        check.dueThrow("pattern: no wagon", () -> x.pattern(0, 1), ARGUMENT);
        x.wagon(30, 1, 1, 1);
        x.wagon(3, 1, 1, 1);
        int[] wrong = {0, -1, -111, 4, 5, 9, 10, 101, 110, 14, 41, 11111, 32111, 2222, 3333, 3332,
            100000, 1111111111, Integer.MAX_VALUE, Integer.MIN_VALUE, 1011, 1110, 111011};
        for (int sizes : wrong) {
            check.dueThrow("pattern: " + sizes, () -> x.pattern(0, sizes), ARGUMENT);
        }
        check.dueThrow("pattern: wagon 2", () -> x.pattern(2, 1), ARGUMENT);
        check.dueThrow("pattern: wagon -1", () -> x.pattern(-1, 1), ARGUMENT);
        check.dueThrow("pattern: wagon too short", () -> x.pattern(1, 1), ARGUMENT);
        check.due("pattern: 1123 is 25", x.pattern(0, 1123), 0);
        check.due("pattern: 1233 is 30", x.pattern(0, 1233), 1);
        check.dueThrow("pattern: 2233 is 34", () -> x.pattern(0, 2233), ARGUMENT);
        check.due("pattern: wrong ones are not counted", x.count(10), 2);
    }

    private static void promise4Box() {
        TrainLoads x = new TrainLoads();
        check.due("box: least numbers", x.box(1, 0, 1, 0, 0), 0);
        check.due("box: greatest numbers", x.box(3, 1000000, 100, 3, 1000000000L), 1);
        for (int box = 2; box < 8; box++) {
            check.due("box: next", x.box(2, 5, 5, 1, 5), box);
        }
        check.dueThrow("box: ninth", () -> x.box(1, 1, 1, 1, 1), STATE);
        check.dueThrow("box: ninth and wrong", () -> x.box(1, 1, 1, 1, -1), ARGUMENT);
        check.due("box: eight", x.count(1), 8);
    }

    private static void promise4WrongBoxes() {
        TrainLoads x = new TrainLoads();
        check.dueThrow("box: size 0", () -> x.box(0, 1, 1, 1, 1), ARGUMENT);
        check.dueThrow("box: size 4", () -> x.box(4, 1, 1, 1, 1), ARGUMENT);
        check.dueThrow("box: weight -1", () -> x.box(1, -1, 1, 1, 1), ARGUMENT);
        check.dueThrow("box: weight 1000001", () -> x.box(1, 1000001, 1, 1, 1), ARGUMENT);
        check.dueThrow("box: weight beyond int", () -> x.box(1, 1L << 32, 1, 1, 1), ARGUMENT);
        check.dueThrow("box: height 0", () -> x.box(1, 1, 0, 1, 1), ARGUMENT);
        check.dueThrow("box: height 101", () -> x.box(1, 1, 101, 1, 1), ARGUMENT);
        check.dueThrow("box: danger -1", () -> x.box(1, 1, 1, -1, 1), ARGUMENT);
        check.dueThrow("box: danger 4", () -> x.box(1, 1, 1, 4, 1), ARGUMENT);
        check.dueThrow("box: booked -1", () -> x.box(1, 1, 1, 1, -1), ARGUMENT);
        check.dueThrow("box: booked late", () -> x.box(1, 1, 1, 1, 1000000001L), ARGUMENT);
        check.dueThrow("box: booked beyond int", () -> x.box(1, 1, 1, 1, 1L << 33), ARGUMENT);
        check.due("box: wrong ones leave none", x.count(1), 0);
    }

    private static void promise5Rule() {
        TrainLoads x = new TrainLoads();
        check.due("rule: 1 3 2", x.rule(1, 3, 2), true);
        check.due("rule: 3 3 1", x.rule(3, 3, 1), true);
        check.due("rule: none where none was", x.rule(1, 2, 0), true);
        int[][] wrong = {{0, 1, 1}, {1, 0, 1}, {4, 1, 1}, {1, 4, 1}, {-1, 1, 1}, {1, -1, 1}, {1, 1, 3}, {1, 1, -1},
            {Integer.MAX_VALUE, 1, 1}, {1, Integer.MIN_VALUE, 1}, {0, 0, 0}};
        for (int[] w : wrong) {
            check.due("rule: " + w[0] + " " + w[1] + " " + w[2], x.rule(w[0], w[1], w[2]), false);
        }
    }

    private static void promise5RuleOverwritten() {
        TrainLoads x = new TrainLoads();
        x.box(1, 1, 1, 1, 1);
        x.box(1, 1, 1, 3, 1);
        x.rule(3, 1, 2);
        check.due("rule: holds both ways", x.together(0, 1) || x.together(1, 0), false);
        check.due("rule: not of a kind with itself", x.together(0, 0), true);
        x.rule(1, 3, 7);
        check.due("rule: a wrong one changes nothing", x.together(0, 1), false);
        x.rule(1, 3, 0);
        check.due("rule: taken back both ways", x.together(0, 1) && x.together(1, 0), true);
    }

    private static void promise6Cut() {
        TrainLoads x = new TrainLoads();
        x.wagon(8, 10, 1, 1);
        x.pattern(0, 11);
        x.box(1, 1, 1, 0, 0);
        x.box(1, 1, 1, 0, 1000000000L);
        check.due("cut: 0", x.cut(0), true);
        check.due("cut: only what is booked on day 0", x.plan(), 4);
        check.due("cut: on the day itself", x.at(0, 0), 0);
        check.due("cut: behind", x.at(1, 0), -1);
        check.due("cut: the day before the last", x.cut(999999999), true);
        check.due("cut: still one", x.plan(), 4);
        check.due("cut: last day", x.cut(1000000000L), true);
        check.due("cut: both", x.plan(), 8);
        check.due("cut: -1", x.cut(-1), false);
        check.due("cut: 1000000001", x.cut(1000000001L), false);
        check.due("cut: least", x.cut(Long.MIN_VALUE), false);
        check.due("cut: greatest", x.cut(Long.MAX_VALUE), false);
        check.due("cut: wrong ones change nothing", x.plan(), 8);
    }

    private static void promise7Out() {
        TrainLoads x = new TrainLoads();
        check.due("out: no wagon", x.out(0, true), false);
        x.wagon(8, 10, 1, 1);
        x.pattern(0, 1);
        x.wagon(8, 10, 1, 1);
        x.pattern(1, 1);
        x.box(1, 1, 1, 0, 0);
        check.due("out: it is not", x.out(0, false), false);
        check.due("out: taken out", x.out(0, true), true);
        check.due("out: it is already", x.out(0, true), false);
        check.due("out: wagon 2", x.out(2, true), false);
        check.due("out: wagon -1", x.out(-1, true), false);
        x.plan();
        check.due("out: the other wagon", x.at(0, 0), 1);
        check.due("out: back", x.out(0, false), true);
        x.plan();
        check.due("out: the wagon again", x.at(0, 0), 0);
    }

    private static TrainLoads small() {
        TrainLoads x = new TrainLoads();
        x.wagon(30, 10, 1, 1);
        x.pattern(0, 1);
        x.box(1, 1, 1, 1, 0);
        x.plan();
        return x;
    }

    private static void planBecomesVoid() {
        TrainLoads x = small();
        check.due("void: planned", x.count(4), 1);
        x.wagon(4, 1, 1, 1);
        dueVoid("wagon", x);
        x.pattern(0, 2);
        dueVoid("pattern", x);
        x.pattern(1, 1);
        dueVoid("first pattern of a wagon", x);
        x.box(1, 1, 1, 1, 0);
        dueVoid("box", x);
        x.rule(1, 2, 1);
        dueVoid("rule", x);
        x.rule(1, 2, 1);
        dueVoid("the same rule", x);
        x.rule(1, 2, 0);
        dueVoid("no rule", x);
        x.cut(5);
        dueVoid("cut", x);
        x.cut(5);
        dueVoid("the same cut", x);
        x.out(0, true);
        dueVoid("out", x);
        x.out(0, false);
        dueVoid("in again", x);
        TrainLoads empty = new TrainLoads();
        empty.plan();
        empty.box(1, 1, 1, 1, 1);
        dueVoid("first box", empty);
        empty.wagon(1, 1, 1, 1);
        dueVoid("first wagon", empty);
    }

    private static void dueVoid(String what, TrainLoads x) {
        check.due("void: " + what, x.count(4), 0);
        check.dueThrow("void, asked: " + what, () -> x.standby(0), NoSuchElementException.class);
        x.plan();
        check.due("planned anew: " + what, x.count(4), 1);
    }

    private static void planStays() {
        TrainLoads x = small();
        Check.answer(() -> x.wagon(0, 0, 0, 0));
        Check.answer(() -> x.pattern(0, 0));
        Check.answer(() -> x.pattern(5, 1));
        Check.answer(() -> x.box(0, 0, 0, 0, 0));
        Check.answer(() -> x.at(9, 9));
        Check.answer(() -> x.load(9, 9));
        Check.answer(() -> x.axle(9, 9));
        Check.answer(() -> x.refused(9));
        x.rule(0, 1, 1);
        x.cut(-1);
        x.out(0, false);
        x.out(7, true);
        x.refused(0);
        x.together(0, 0);
        x.standby(0);
        check.due("stays: the plan", x.count(4), 1);
        check.due("stays: the box", x.at(0, 0), 0);
        check.due("stays: planned again", x.plan(), 4);
        fullTrainKeepsPlan();
    }

    private static void fullTrainKeepsPlan() {
        TrainLoads x = small();
        x.wagon(4, 1, 1, 1);
        x.wagon(4, 1, 1, 1);
        for (int box = 1; box < 8; box++) {
            x.box(1, 1, 1, 1, 0);
        }
        for (int pattern = 1; pattern < 4; pattern++) {
            x.pattern(0, 1);
        }
        x.plan();
        check.dueThrow("stays: fourth wagon", () -> x.wagon(4, 1, 1, 1), STATE);
        check.dueThrow("stays: ninth box", () -> x.box(1, 1, 1, 1, 0), STATE);
        check.dueThrow("stays: fifth pattern", () -> x.pattern(0, 1), STATE);
        check.due("stays: full", x.count(4), 1);
    }
}
