import java.util.NoSuchElementException;

/** Promises 8 to 12: the plan and what is asked of it. */
public final class PlanTest {
    private static final Class<IndexOutOfBoundsException> INDEX = IndexOutOfBoundsException.class;
    private static final Class<NoSuchElementException> ELEMENT = NoSuchElementException.class;
    private static final Check check = new Check();

    public static void main(String[] args) {
        promise8Nothing();
        promise8MostLength();
        promise8OrderOfBooking();
        promise8EqualDays();
        promise8LeastWagons();
        promise8WeightAndGauge();
        promise8RuleOnOneWagon();
        promise8RuleOfNeighbours();
        promise8RuleOfNeighboursOverWagonOut();
        promise8RuleReachesOneWagon();
        promise9At();
        promise9Places();
        promise10Load();
        promise11Axle();
        promise12Standby();
        check.end("PlanTest");
    }

    private static void promise8Nothing() {
        TrainLoads x = new TrainLoads();
        check.due("plan: nothing", x.plan(), 0);
        check.due("plan: nothing is a plan", x.count(4), 1);
        x.box(1, 1, 1, 0, 0);
        check.due("plan: no wagon", x.plan(), 0);
        x.wagon(30, 10, 1, 1);
        check.due("plan: no pattern", x.plan(), 0);
        x.pattern(0, 2);
        check.due("plan: no pattern of the size", x.plan(), 0);
        x.pattern(0, 31);
        check.due("plan: a pattern with more places", x.plan(), 4);
    }

    private static void promise8MostLength() {
        // Box 0 is booked first, but one of 9 uses more than one of 8 or two of 4.
        TrainLoads x = new TrainLoads();
        x.wagon(9, 100, 1, 10);
        x.pattern(0, 11);
        x.pattern(0, 2);
        x.pattern(0, 3);
        x.box(2, 1, 1, 0, 0);
        x.box(1, 1, 1, 0, 0);
        x.box(1, 1, 1, 0, 0);
        x.box(3, 1, 1, 0, 9);
        check.due("most length: 9", x.plan(), 9);
        dueWagons("most length", x, -1, -1, -1, 0);
        check.due("most length: pattern", x.load(0, 0), 2);
        x.cut(8);
        check.due("most length: 8 without the last", x.plan(), 8);
        dueWagons("most length, just to booking", x, 0, -1, -1, -1);
    }

    private static void promise8OrderOfBooking() {
        // One place: the one booked first has it, whatever its number.
        TrainLoads x = new TrainLoads();
        x.wagon(8, 100, 1, 10);
        x.pattern(0, 11);
        x.pattern(0, 2);
        x.box(1, 1, 1, 0, 5);
        x.box(2, 1, 1, 0, 4);
        x.box(1, 1, 1, 0, 3);
        check.due("booking: length", x.plan(), 8);
        dueWagons("booking: two small ones, for one is first", x, 0, -1, 0);
        x.box(1, 1, 1, 0, 6);
        x.plan();
        dueWagons("booking: a later one waits", x, 0, -1, 0, -1);
        x.box(2, 1, 1, 0, 2);
        x.plan();
        dueWagons("booking: an earlier one alone beats two", x, -1, -1, -1, -1, 0);
    }

    private static void promise8EqualDays() {
        TrainLoads x = new TrainLoads();
        x.wagon(8, 100, 1, 10);
        x.pattern(0, 1);
        for (int box = 0; box < 8; box++) {
            x.box(1, 1, 1, 0, 7);
        }
        x.plan();
        dueWagons("equal days: the least number", x, 0, -1, -1, -1, -1, -1, -1, -1);
    }

    private static void promise8LeastWagons() {
        TrainLoads x = new TrainLoads();
        for (int wagon = 0; wagon < 3; wagon++) {
            x.wagon(8, 100, 1, 10);
            x.pattern(wagon, 1);
        }
        x.box(1, 1, 1, 0, 9);
        x.box(1, 1, 1, 0, 1);
        x.plan();
        dueWagons("least wagons: by number, not by booking", x, 0, 1);
        x.pattern(0, 11);
        x.plan();
        dueWagons("least wagons: both on one", x, 0, 0);
        x.box(2, 1, 1, 0, 1);
        x.pattern(0, 2);
        check.due("least wagons: more length first", x.plan(), 16);
        dueWagons("least wagons: as the length lets", x, 1, 2, 0);
    }

    private static void promise8WeightAndGauge() {
        TrainLoads x = new TrainLoads();
        x.wagon(16, 10, 1, 5);
        x.pattern(0, 1111);
        x.wagon(16, 0, 1, 9);
        x.pattern(1, 1111);
        x.box(1, 6, 5, 0, 0);
        x.box(1, 5, 5, 0, 1);
        x.box(1, 4, 5, 0, 2);
        x.box(1, 0, 6, 0, 3);
        x.box(1, 0, 10, 0, 0);
        check.due("weight, gauge: length", x.plan(), 12);
        dueWagons("weight, gauge", x, 0, -1, 0, 1, -1);
        check.due("weight: exactly the most", x.load(0, 3), 10);
    }

    private static void promise8RuleOnOneWagon() {
        TrainLoads x = new TrainLoads();
        for (int wagon = 0; wagon < 2; wagon++) {
            x.wagon(16, 100, 1, 10);
            x.pattern(wagon, 1111);
        }
        x.box(1, 1, 1, 1, 0);
        x.box(1, 1, 1, 2, 0);
        x.box(1, 1, 1, 2, 0);
        x.box(1, 1, 1, 0, 0);
        x.plan();
        dueWagons("no rule", x, 0, 0, 0, 0);
        x.rule(2, 1, 1);
        x.plan();
        dueWagons("1 and 2 apart", x, 0, 1, 1, 0);
        x.rule(2, 2, 1);
        check.due("2 and 2 apart too: length", x.plan(), 12);
        dueWagons("2 and 2 apart too", x, 0, 1, -1, 0);
        x.rule(1, 2, 0);
        x.plan();
        dueWagons("only 2 and 2 apart", x, 0, 0, 1, 0);
    }

    private static TrainLoads threeWagons() {
        TrainLoads x = new TrainLoads();
        for (int wagon = 0; wagon < 3; wagon++) {
            x.wagon(4, 100, 1, 10);
            x.pattern(wagon, 1);
        }
        return x;
    }

    private static void promise8RuleOfNeighbours() {
        TrainLoads x = threeWagons();
        x.box(1, 1, 1, 1, 0);
        x.box(1, 1, 1, 1, 0);
        x.rule(1, 1, 1);
        x.plan();
        dueWagons("neighbours: rule 1 lets them", x, 0, 1);
        x.rule(1, 1, 2);
        x.plan();
        dueWagons("neighbours: rule 2 does not", x, 0, 2);
        x.box(1, 1, 1, 1, 0);
        check.due("neighbours: no third", x.plan(), 8);
        x.box(1, 1, 1, 3, 0);
        check.due("neighbours: another kind between", x.plan(), 12);
        dueWagons("neighbours: another kind between", x, 0, 2, -1, 1);
        x.rule(3, 1, 2);
        check.due("neighbours: no kind between", x.plan(), 8);
        dueWagons("neighbours: no kind between", x, 0, 2, -1, -1);
    }

    private static void promise8RuleOfNeighboursOverWagonOut() {
        TrainLoads x = threeWagons();
        x.box(1, 1, 1, 1, 0);
        x.box(1, 1, 1, 2, 0);
        x.rule(1, 2, 2);
        x.out(1, true);
        check.due("wagon out between: length", x.plan(), 8);
        dueWagons("wagon out between", x, 0, 2);
        x.out(1, false);
        x.out(0, true);
        check.due("only neighbours are left", x.plan(), 4);
        dueWagons("only neighbours are left", x, 1, -1);
    }

    private static void promise8RuleReachesOneWagon() {
        // Heights send box 0 to wagon 2 and box 1 to wagon 0: the rule of kind 3 with itself does not reach so far.
        TrainLoads x = new TrainLoads();
        x.wagon(4, 0, 1, 10);
        x.pattern(0, 1);
        x.wagon(4, 100, 1, 1);
        x.pattern(1, 1);
        x.wagon(8, 100, 1, 10);
        x.pattern(2, 2);
        x.box(2, 1, 10, 3, 0);
        x.box(1, 0, 10, 3, 0);
        x.rule(3, 3, 2);
        check.due("rule over two wagons: length", x.plan(), 12);
        dueWagons("rule over two wagons", x, 2, 0);
        x.box(1, 0, 1, 3, 0);
        check.due("rule from both sides: length", x.plan(), 12);
        dueWagons("rule from both sides", x, 2, 0, -1);
    }

    private static void promise9At() {
        TrainLoads x = new TrainLoads();
        check.dueThrow("at: no box, no plan", () -> x.at(0, 0), INDEX);
        x.box(1, 1, 1, 0, 0);
        check.dueThrow("at: no plan", () -> x.at(0, 0), ELEMENT);
        check.dueThrow("at: no plan, no what", () -> x.at(0, 2), INDEX);
        x.plan();
        check.dueThrow("at: box -1", () -> x.at(-1, 0), INDEX);
        check.dueThrow("at: box 1", () -> x.at(1, 0), INDEX);
        check.dueThrow("at: box 8", () -> x.at(8, 0), INDEX);
        check.dueThrow("at: least box", () -> x.at(Integer.MIN_VALUE, 1), INDEX);
        check.dueThrow("at: what -1", () -> x.at(0, -1), INDEX);
        check.dueThrow("at: what 2", () -> x.at(0, 2), INDEX);
        check.due("at: not loaded", x.at(0, 0), -1);
        check.due("at: no place", x.at(0, 1), -1);
    }

    private static void promise9Places() {
        TrainLoads x = new TrainLoads();
        x.wagon(30, 100, 1, 10);
        x.pattern(0, 1212);
        x.wagon(30, 100, 1, 10);
        x.pattern(1, 311);
        x.box(2, 1, 1, 0, 9);
        x.box(1, 1, 1, 0, 8);
        x.box(2, 1, 1, 0, 7);
        x.box(1, 1, 1, 0, 6);
        x.box(1, 1, 1, 0, 5);
        x.box(3, 1, 1, 0, 4);
        check.due("places: length", x.plan(), 37);
        dueWagons("places", x, 0, 0, 0, 0, 1, 1);
        int[] places = {1, 0, 3, 2, 1, 0};
        for (int box = 0; box < places.length; box++) {
            check.due("place of box " + box, x.at(box, 1), places[box]);
        }
    }

    private static void promise10Load() {
        TrainLoads x = new TrainLoads();
        check.dueThrow("load: no wagon, no plan", () -> x.load(0, 0), INDEX);
        x.wagon(30, 100, 1, 10);
        x.pattern(0, 1);
        x.pattern(0, 31);
        x.pattern(0, 13);
        x.wagon(30, 100, 1, 10);
        check.dueThrow("load: no plan", () -> x.load(0, 0), ELEMENT);
        check.dueThrow("load: no plan, no what", () -> x.load(0, 4), INDEX);
        x.box(1, 7, 1, 0, 0);
        x.plan();
        check.due("load: least pattern", x.load(0, 0), 0);
        x.box(3, 6, 1, 0, 0);
        x.plan();
        dueLoad("two boxes", x, 0, 1, 2, 13, 13);
        dueLoad("empty", x, 1, -1, 0, 0, 0);
        check.dueThrow("load: wagon -1", () -> x.load(-1, 0), INDEX);
        check.dueThrow("load: wagon 2", () -> x.load(2, 0), INDEX);
        check.dueThrow("load: what -1", () -> x.load(0, -1), INDEX);
        check.dueThrow("load: what 4", () -> x.load(0, 4), INDEX);
        check.dueThrow("load: greatest what", () -> x.load(0, Integer.MAX_VALUE), INDEX);
        x.out(0, true);
        x.plan();
        dueLoad("out", x, 0, -1, 0, 0, 0);
    }

    private static void dueLoad(String what, TrainLoads x, int wagon, int... due) {
        for (int i = 0; i < due.length; i++) {
            check.due("load: " + what + " " + i, x.load(wagon, i), due[i]);
        }
    }

    private static void promise11Axle() {
        TrainLoads x = new TrainLoads();
        check.dueThrow("axle: no wagon, no plan", () -> x.axle(0, 0), INDEX);
        x.wagon(4, 100, 3, 10);
        x.pattern(0, 1);
        x.wagon(4, 100, 0, 10);
        x.box(1, 20, 1, 0, 0);
        check.dueThrow("axle: no plan, no axles", () -> x.axle(1, 0), ELEMENT);
        check.dueThrow("axle: no plan", () -> x.axle(0, 0), ELEMENT);
        check.dueThrow("axle: no side, no plan", () -> x.axle(0, 2), INDEX);
        x.plan();
        check.due("axle: whole", x.axle(0, 0), 6);
        check.due("axle: what is left", x.axle(0, 1), 2);
        check.dueThrow("axle: no axles, whole", () -> x.axle(1, 0), ArithmeticException.class);
        check.dueThrow("axle: no axles, left", () -> x.axle(1, 1), ArithmeticException.class);
        check.dueThrow("axle: no axles, no side", () -> x.axle(1, 2), INDEX);
        check.dueThrow("axle: side -1", () -> x.axle(0, -1), INDEX);
        check.dueThrow("axle: wagon 2", () -> x.axle(2, 0), INDEX);
        check.dueThrow("axle: wagon -1", () -> x.axle(-1, 0), INDEX);
        x.wagon(4, 100, 8, 10);
        x.plan();
        check.due("axle: nothing on it", x.axle(2, 0) + x.axle(2, 1), 0);
    }

    private static void promise12Standby() {
        TrainLoads x = new TrainLoads();
        check.dueThrow("standby: no plan", () -> x.standby(0), ELEMENT);
        check.dueThrow("standby: no plan, -1", () -> x.standby(-1), ELEMENT);
        x.wagon(4, 100, 1, 10);
        x.pattern(0, 1);
        x.box(1, 1, 1, 0, 5);
        x.box(1, 1, 1, 0, 3);
        x.box(1, 1, 1, 0, 9);
        x.box(1, 1, 1, 0, 5);
        x.box(1, 1, 1, 0, 1);
        x.cut(8);
        x.plan();
        int[] due = {1, 0, 3, 2, -1, -1};
        for (int i = 0; i < due.length; i++) {
            check.due("standby: " + i, x.standby(i), due[i]);
        }
        check.due("standby: -1", x.standby(-1), -1);
        check.due("standby: least", x.standby(Integer.MIN_VALUE), -1);
        check.due("standby: greatest", x.standby(Integer.MAX_VALUE), -1);
    }

    private static void dueWagons(String what, TrainLoads x, int... due) {
        for (int box = 0; box < due.length; box++) {
            check.due(what + ": wagon of box " + box, x.at(box, 0), due[box]);
        }
    }
}
