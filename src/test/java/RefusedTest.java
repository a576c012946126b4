import java.util.LinkedHashMap;
import java.util.Map;
import java.util.function.Supplier;
import java.util.function.ToLongFunction;

/** "an answer of false or 0 and exceptions change nothing": every refused call, on trains of all sorts. */
public final class RefusedTest {
    private static final String ARGUMENT = "IllegalArgumentException";
    private static final String STATE = "IllegalStateException";
    private static final String INDEX = "IndexOutOfBoundsException";
    private static final String ELEMENT = "NoSuchElementException";
    private static final String ARITHMETIC = "ArithmeticException";
    private static final String FALSE = "0";
    private static final String NONE = "-1";
    private static final Check check = new Check();

    private final String train;
    private final Supplier<TrainLoads> made;

    private RefusedTest(String train, Supplier<TrainLoads> made) {
        this.train = train;
        this.made = made;
    }

    public static void main(String[] args) {
        Map<String, Supplier<TrainLoads>> trains = new LinkedHashMap<>();
        trains.put("new", TrainLoads::new);
        trains.put("mixed", Trains::mixed);
        trains.put("full", Trains::full);
        for (String train : trains.keySet()) {
            Supplier<TrainLoads> made = trains.get(train);
            new RefusedTest(train, made).always();
            new RefusedTest(train, made).withoutPlan();
            new RefusedTest(train + ", planned", () -> planned(made.get())).always();
        }
        onlyMixed(Trains::mixed);
        onlyMixed(() -> planned(Trains.mixed()));
        onlyFull(Trains::full);
        onlyFull(() -> planned(Trains.full()));
        check.end("RefusedTest");
    }

    private static TrainLoads planned(TrainLoads x) {
        x.plan();
        return x;
    }

    private void due(String call, ToLongFunction<TrainLoads> refused, String due) {
        Twins.dueNoChange(check, train + ": " + call, made, refused, due);
    }

    private void always() {
        wagons();
        patterns();
        boxes();
        rules();
        cutOffs();
        outs();
        asked();
    }

    private void wagons() {
        due("wagon of length 0", x -> x.wagon(0, 1, 1, 1), ARGUMENT);
        due("wagon of length 31", x -> x.wagon(31, 1, 1, 1), ARGUMENT);
        due("wagon of weight -1", x -> x.wagon(30, -1, 1, 1), ARGUMENT);
        due("wagon of weight 1000001", x -> x.wagon(30, 1000001, 1, 1), ARGUMENT);
        due("wagon of axles -1", x -> x.wagon(30, 1, -1, 1), ARGUMENT);
        due("wagon of axles 9", x -> x.wagon(30, 1, 9, 1), ARGUMENT);
        due("wagon of gauge 0", x -> x.wagon(30, 1, 1, 0), ARGUMENT);
        due("wagon of gauge 101", x -> x.wagon(30, 1, 1, 101), ARGUMENT);
    }

    private void patterns() {
        due("pattern of wagon -1", x -> x.pattern(-1, 1), ARGUMENT);
        due("pattern of wagon 3", x -> x.pattern(3, 1), ARGUMENT);
        due("pattern 0", x -> x.pattern(0, 0), ARGUMENT);
        due("pattern 10", x -> x.pattern(0, 10), ARGUMENT);
        due("pattern 14", x -> x.pattern(0, 14), ARGUMENT);
        due("pattern 11111", x -> x.pattern(0, 11111), ARGUMENT);
        due("pattern -1", x -> x.pattern(0, -1), ARGUMENT);
        due("pattern 2222, too long", x -> x.pattern(0, 2222), ARGUMENT);
    }

    private void boxes() {
        due("box of size 0", x -> x.box(0, 1, 1, 1, 1), ARGUMENT);
        due("box of size 4", x -> x.box(4, 1, 1, 1, 1), ARGUMENT);
        due("box of weight -1", x -> x.box(1, -1, 1, 1, 1), ARGUMENT);
        due("box of weight 1000001", x -> x.box(1, 1000001, 1, 1, 1), ARGUMENT);
        due("box of height 0", x -> x.box(1, 1, 0, 1, 1), ARGUMENT);
        due("box of height 101", x -> x.box(1, 1, 101, 1, 1), ARGUMENT);
        due("box of danger -1", x -> x.box(1, 1, 1, -1, 1), ARGUMENT);
        due("box of danger 4", x -> x.box(1, 1, 1, 4, 1), ARGUMENT);
        due("box booked on -1", x -> x.box(1, 1, 1, 1, -1), ARGUMENT);
        due("box booked on 1000000001", x -> x.box(1, 1, 1, 1, 1000000001L), ARGUMENT);
    }

    private void rules() {
        due("rule of kinds 0 and 1", x -> x.rule(0, 1, 2) ? 1 : 0, FALSE);
        due("rule of kinds 1 and 0", x -> x.rule(1, 0, 2) ? 1 : 0, FALSE);
        due("rule of kinds 0 and 0", x -> x.rule(0, 0, 2) ? 1 : 0, FALSE);
        due("rule of kinds 4 and 1", x -> x.rule(4, 1, 2) ? 1 : 0, FALSE);
        due("rule of kinds 1 and 4", x -> x.rule(1, 4, 2) ? 1 : 0, FALSE);
        due("rule -1", x -> x.rule(1, 2, -1) ? 1 : 0, FALSE);
        due("rule 3", x -> x.rule(1, 2, 3) ? 1 : 0, FALSE);
        due("rule 3 where none is", x -> x.rule(2, 3, 3) ? 1 : 0, FALSE);
    }

    private void cutOffs() {
        due("cut at -1", x -> x.cut(-1) ? 1 : 0, FALSE);
        due("cut at 1000000001", x -> x.cut(1000000001L) ? 1 : 0, FALSE);
        due("cut at 2 to the 32nd", x -> x.cut(1L << 32) ? 1 : 0, FALSE);
    }

    private void outs() {
        due("wagon -1 out", x -> x.out(-1, true) ? 1 : 0, FALSE);
        due("wagon 3 out", x -> x.out(3, true) ? 1 : 0, FALSE);
        due("wagon 3 in", x -> x.out(3, false) ? 1 : 0, FALSE);
        due("wagon 0 in as it is", x -> x.out(0, false) ? 1 : 0, FALSE);
    }

    private void asked() {
        due("at of box -1", x -> x.at(-1, 0), INDEX);
        due("at of box 8", x -> x.at(8, 0), INDEX);
        due("at, what 2", x -> x.at(0, 2), INDEX);
        due("load of wagon -1", x -> x.load(-1, 0), INDEX);
        due("load of wagon 3", x -> x.load(3, 0), INDEX);
        due("load, what 4", x -> x.load(0, 4), INDEX);
        due("axle of wagon -1", x -> x.axle(-1, 0), INDEX);
        due("axle of wagon 3", x -> x.axle(3, 0), INDEX);
        due("axle, side 2", x -> x.axle(0, 2), INDEX);
        due("refused of box -1", x -> x.refused(-1), INDEX);
        due("refused of box 8", x -> x.refused(8), INDEX);
        due("together of 8 and 0", x -> x.together(8, 0) ? 1 : 0, INDEX);
        due("together of 0 and -1", x -> x.together(0, -1) ? 1 : 0, INDEX);
        due("count of 5", x -> x.count(5), NONE);
        due("count of 13", x -> x.count(13), NONE);
        due("count of -1", x -> x.count(-1), NONE);
    }

    private void withoutPlan() {
        due("standby without a plan", x -> x.standby(0), ELEMENT);
        due("boxes loaded without a plan", x -> x.count(2), NONE);
        due("length without a plan", x -> x.count(3), NONE);
        if (!train.equals("new")) {
            due("at without a plan", x -> x.at(0, 0), ELEMENT);
            due("load without a plan", x -> x.load(0, 0), ELEMENT);
            due("axle without a plan", x -> x.axle(0, 0), ELEMENT);
        }
    }

    private static void onlyMixed(Supplier<TrainLoads> made) {
        RefusedTest mixed = new RefusedTest("mixed alone", made);
        mixed.due("wagon 1 out as it is", x -> x.out(1, true) ? 1 : 0, FALSE);
        mixed.due("wagon 2 out", x -> x.out(2, true) ? 1 : 0, FALSE);
        mixed.due("pattern of wagon 2", x -> x.pattern(2, 1), ARGUMENT);
        mixed.due("pattern one too long", x -> x.pattern(1, 112), ARGUMENT);
        mixed.due("at of box 4", x -> x.at(4, 0), INDEX);
        mixed.due("load of wagon 2", x -> x.load(2, 0), INDEX);
        mixed.due("refused of box 4", x -> x.refused(4), INDEX);
        mixed.due("together of 0 and 4", x -> x.together(0, 4) ? 1 : 0, INDEX);
        mixed.due("wagon without axles", x -> x.axle(1, 0), made.get().count(4) == 0 ? ELEMENT : ARITHMETIC);
    }

    private static void onlyFull(Supplier<TrainLoads> made) {
        RefusedTest full = new RefusedTest("full alone", made);
        full.due("fourth wagon", x -> x.wagon(9, 9, 2, 9), STATE);
        full.due("fifth pattern of wagon 0", x -> x.pattern(0, 2), STATE);
        full.due("fifth pattern of wagon 2", x -> x.pattern(2, 1233), STATE);
        full.due("ninth box", x -> x.box(3, 9, 9, 2, 0), STATE);
        full.due("fourth wagon of length 0", x -> x.wagon(0, 9, 2, 9), ARGUMENT);
        full.due("fifth pattern 4", x -> x.pattern(0, 4), ARGUMENT);
        full.due("ninth box of size 0", x -> x.box(0, 9, 9, 2, 0), ARGUMENT);
    }
}
