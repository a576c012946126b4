import java.util.NoSuchElementException;
import java.util.function.Consumer;
import java.util.function.ToLongFunction;

/** "What is told of wagons, patterns, boxes, rules, cut-off makes a plan void". */
public final class VoidTest {
    private static final Class<NoSuchElementException> ELEMENT = NoSuchElementException.class;
    private static final Check check = new Check();

    public static void main(String[] args) {
        wagonsTold();
        patternsTold();
        boxesTold();
        rulesTold();
        cutOffTold();
        outTold();
        firstNumbersTold();
        askedIsNotTold();
        check.end("VoidTest");
    }

    private static void wagonsTold() {
        dueVoid("a wagon", x -> x.wagon(30, 10, 1, 1), 2);
        dueVoid("a wagon that is of no use", x -> x.wagon(1, 0, 0, 1), 2);
    }

    private static void patternsTold() {
        dueVoid("a pattern", x -> x.pattern(0, 3), 2);
        dueVoid("a pattern as another one is", x -> x.pattern(0, 1), 2);
        dueVoid("a pattern of a wagon that is out", x -> x.pattern(1, 1), 1);
    }

    private static void boxesTold() {
        dueVoid("a box", x -> x.box(1, 1, 1, 0, 0), 4);
        dueVoid("a box behind the cut-off", x -> x.box(1, 1, 1, 0, Trains.LAST_DAY), 4);
    }

    private static void rulesTold() {
        dueVoid("rule 1", x -> x.rule(2, 3, 1) ? 1 : 0, 1);
        dueVoid("rule 2", x -> x.rule(2, 3, 2) ? 1 : 0, 1);
        dueVoid("no rule any more", x -> x.rule(1, 2, 0) ? 1 : 0, 1);
        dueVoid("no rule as before", x -> x.rule(2, 3, 0) ? 1 : 0, 1);
        dueVoid("a rule as before", x -> x.rule(1, 2, 1) ? 1 : 0, 1);
    }

    private static void cutOffTold() {
        dueVoid("a cut-off", x -> x.cut(5) ? 1 : 0, 1);
        dueVoid("a cut-off as before", x -> x.cut(6) ? 1 : 0, 1);
        dueVoid("the first day", x -> x.cut(0) ? 1 : 0, 1);
        dueVoid("the last day", x -> x.cut(Trains.LAST_DAY) ? 1 : 0, 1);
    }

    private static void outTold() {
        dueVoid("a wagon out", x -> x.out(0, true) ? 1 : 0, 1);
        dueVoid("a wagon in again", x -> x.out(1, false) ? 1 : 0, 1);
    }

    /** The first wagon, pattern and box have the number 0, which is no answer that changes nothing. */
    private static void firstNumbersTold() {
        TrainLoads x = new TrainLoads();
        x.plan();
        check.due("void: first wagon", x.wagon(30, 10, 1, 1), 0);
        check.due("void: first wagon: no plan", x.count(4), 0);
        x.plan();
        check.due("void: first pattern", x.pattern(0, 1), 0);
        check.due("void: first pattern: no plan", x.count(4), 0);
        x.plan();
        check.due("void: first box", x.box(1, 1, 1, 0, 0), 0);
        check.due("void: first box: no plan", x.count(4), 0);
        check.due("void: planned with all of them", x.plan(), 4);
    }

    /** The mixed train with a plan hears the call, which has this answer: then there is no plan. */
    private static void dueVoid(String what, ToLongFunction<TrainLoads> told, long due) {
        TrainLoads x = Trains.mixed();
        check.due("void: length before: " + what, x.plan(), 12);
        check.due("void: the answer of " + what, told.applyAsLong(x), due);
        check.due("void: plan after " + what, x.count(4), 0);
        check.due("void: boxes loaded after " + what, x.count(2), -1);
        check.due("void: length after " + what, x.count(3), -1);
        for (int number = 0; number < 2; number++) {
            int wagon = number;
            check.dueThrow("void: at after " + what, () -> x.at(0, wagon), ELEMENT);
            check.dueThrow("void: axle after " + what, () -> x.axle(wagon, 0), ELEMENT);
            for (int asked = 0; asked < 4; asked++) {
                int of = asked;
                check.dueThrow("void: load after " + what, () -> x.load(wagon, of), ELEMENT);
            }
        }
        check.dueThrow("void: standby after " + what, () -> x.standby(0), ELEMENT);
        x.plan();
        check.due("void: planned anew after " + what, x.count(4), 1);
    }

    /** What is only asked leaves the plan. */
    private static void askedIsNotTold() {
        dueStays("at", x -> x.at(1, 1));
        dueStays("load", x -> x.load(0, 0));
        dueStays("axle", x -> x.axle(0, 0));
        dueStays("standby", x -> x.standby(0));
        dueStays("refused", x -> x.refused(0));
        dueStays("together", x -> x.together(0, 1));
        dueStays("count", x -> x.count(0));
        dueStays("plan", x -> x.plan());
    }

    private static void dueStays(String what, Consumer<TrainLoads> asked) {
        TrainLoads x = Trains.mixed();
        x.plan();
        asked.accept(x);
        check.due("plan stays after " + what, x.count(4), 1);
        check.due("plan stays after " + what + ": its length", x.count(3), 12);
        check.due("plan stays after " + what + ": its first waiting box", x.standby(0), 0);
    }
}
