import java.util.Arrays;
import java.util.NoSuchElementException;

/** Promises 8 to 12: the plan and what is asked of it. Comments quote the sentence that a method tests. */
public final class PlanTest {
    private static final Class<IndexOutOfBoundsException> INDEX = IndexOutOfBoundsException.class;
    private static final Class<NoSuchElementException> ELEMENT = NoSuchElementException.class;
    private static final Class<ArithmeticException> ARITHMETIC = ArithmeticException.class;
    private static final Check check = new Check();

    public static void main(String[] args) {
        plan();
        at();
        load();
        axle();
        standby();
        check.end("PlanTest");
    }

    private static void plan() {
        planOfNothing();
        planOfMostLength();
        planOfOneMoreLength();
        planOfGreatestTrains();
        planByBooking();
        planByFirstThatDiffers();
        planLeavesTheLastBooked();
        planOfLeastWagons();
        planOfLeastWagonsOfThoseLoaded();
        planNotByWagonsBeforeLength();
        planAgain();
    }

    /** Promise 8: "THE PLAN is made: the length that it uses", where there is none. */
    private static void planOfNothing() {
        TrainLoads x = new TrainLoads();
        check.due("plan of nothing", x.plan(), 0);
        check.due("plan of nothing is a plan", x.count(4), 1);
        x.box(1, 1, 1, 0, 0);
        check.due("plan without wagons", x.plan(), 0);
        check.due("plan without wagons is a plan", x.count(4), 1);
        x.wagon(30, 10, 1, 1);
        check.due("plan without patterns", x.plan(), 0);
        x.pattern(0, 2);
        check.due("plan without a pattern of the size", x.plan(), 0);
        x.pattern(0, 31);
        check.due("plan with one", x.plan(), 4);
        check.due("plan without boxes", Trains.of(3, 1, 2, 3, 123).plan(), 0);
    }

    /** Terms: "the one that uses most length (of boxes' sizes)", whatever was booked first. */
    private static void planOfMostLength() {
        TrainLoads x = Trains.of(1, 11, 2, 3);
        x.box(2, 1, 1, 0, 0);
        x.box(1, 1, 1, 0, 0);
        x.box(1, 1, 1, 0, 0);
        x.box(3, 1, 1, 0, 9);
        check.due("9 is more than 8", x.plan(), 9);
        dueWagons("9 is more than 8", x, -1, -1, -1, 0);
        x.cut(8);
        check.due("8 without the last", x.plan(), 8);
        dueWagons("8 without the last", x, 0, -1, -1, -1);
        TrainLoads y = Trains.of(1, 3, 111);
        y.box(3, 1, 1, 0, 0);
        Trains.addDays(y, 5, 5);
        check.due("9 is more than two of 4", y.plan(), 9);
        Trains.addDays(y, 5);
        check.due("three of 4 are more than 9", y.plan(), 12);
        dueWagons("three of 4 are more than 9", y, -1, 0, 0, 0);
    }

    /** Terms: "most length" comes before any number of boxes that are booked earlier. */
    private static void planOfOneMoreLength() {
        TrainLoads x = Trains.of(1, 11, 3);
        Trains.addDays(x, 0, 0);
        x.box(3, 1, 1, 0, 1);
        check.due("9 is more than two of 4 booked before", x.plan(), 9);
        dueWagons("9 is more than two of 4 booked before", x, -1, -1, 0);
        TrainLoads y = Trains.of(1, 1111, 23);
        Trains.addDays(y, 0, 0, 0, 0);
        y.box(2, 1, 1, 0, 1);
        y.box(3, 1, 1, 0, 1);
        check.due("17 is more than four of 4 booked before", y.plan(), 17);
        dueWagons("17 is more than four of 4 booked before", y, -1, -1, -1, -1, 0, 0);
        TrainLoads z = Trains.of(1, 1111, 3);
        z.wagon(30, 100, 1, 1);
        z.pattern(1, 112);
        z.pattern(1, 32);
        Trains.addDays(z, 0, 0, 0, 0, 0, 0);
        z.box(2, 1, 1, 0, 0);
        z.box(3, 1, 1, 0, 1);
        check.due("33 is more than 32, all booked before the last", z.plan(), 33);
        dueWagons("33 is more than 32, all booked before the last", z, 0, 0, 0, 0, -1, -1, 1, 1);
    }

    /** As many boxes as there may be, all loaded. */
    private static void planOfGreatestTrains() {
        TrainLoads x = Trains.of(3, 333);
        Trains.addSizes(x, 3, 3, 3, 3, 3, 3, 3, 3);
        check.due("eight of 9", x.plan(), 72);
        dueWagons("eight of 9", x, 0, 0, 0, 1, 1, 1, 2, 2);
        check.due("eight of 9: boxes", x.count(2), 8);
        TrainLoads y = Trains.of(3, 1233);
        Trains.addSizes(y, 3, 3, 3, 3, 3, 3, 2, 2);
        check.due("wagons of 30", y.plan(), 70);
        dueWagons("wagons of 30", y, 0, 0, 1, 1, 2, 2, 0, 1);
        TrainLoads z = Trains.of(2, 1111);
        Trains.addSizes(z, 1, 1, 1, 1, 1, 1, 1, 1);
        check.due("eight of 4", z.plan(), 32);
        dueWagons("eight of 4", z, 0, 0, 0, 0, 1, 1, 1, 1);
    }

    /** Terms: "of such the one that loads more in the order of booking". */
    private static void planByBooking() {
        TrainLoads x = Trains.of(1, 11, 2);
        x.box(1, 1, 1, 0, 5);
        x.box(2, 1, 1, 0, 4);
        x.box(1, 1, 1, 0, 3);
        check.due("8 or twice 4", x.plan(), 8);
        dueWagons("two of 4, for one is first", x, 0, -1, 0);
        x.box(1, 1, 1, 0, 6);
        x.plan();
        dueWagons("a later one waits", x, 0, -1, 0, -1);
        x.box(2, 1, 1, 0, 2);
        x.plan();
        dueWagons("an earlier one alone before two", x, -1, -1, -1, -1, 0);
        TrainLoads equal = Trains.of(1, 11, 2);
        Trains.addSizes(equal, 1, 2, 1);
        equal.plan();
        dueWagons("on one day the least number", equal, 0, -1, 0);
    }

    /** Terms: "at the first box in that order that one loads and another one does not the one that does". */
    private static void planByFirstThatDiffers() {
        // Both loadings take box 3, then one takes box 2 and the other one boxes 0, 1.
        TrainLoads x = Trains.of(1, 21, 111);
        x.box(1, 1, 1, 0, 8);
        x.box(1, 1, 1, 0, 7);
        x.box(2, 1, 1, 0, 6);
        x.box(1, 1, 1, 0, 5);
        check.due("the first is in both", x.plan(), 12);
        dueWagons("the second decides", x, -1, -1, 0, 0);
        // The first one outweighs all others together.
        TrainLoads y = Trains.of(2, 2, 11);
        y.box(2, 1, 1, 0, 9);
        y.box(1, 1, 1, 0, 8);
        y.box(2, 1, 1, 0, 7);
        y.box(1, 1, 1, 0, 6);
        y.box(1, 1, 1, 0, 5);
        y.box(1, 1, 1, 0, 4);
        check.due("four of 4", y.plan(), 16);
        dueWagons("four of 4 before an 8", y, -1, 0, -1, 0, 1, 1);
        y.box(2, 1, 1, 0, 3);
        y.plan();
        dueWagons("the 8 that is first, then two of 4", y, -1, -1, -1, -1, 0, 0, 1);
    }

    /** Seven places for eight boxes: the last in the order of booking waits, whatever its number. */
    private static void planLeavesTheLastBooked() {
        for (int last = 0; last < 8; last++) {
            TrainLoads x = Trains.of(1, 111);
            x.wagon(30, 1000, 1, 100);
            x.pattern(1, 1111);
            for (int box = 0; box < 8; box++) {
                Trains.addDays(x, box == last ? Trains.LAST_DAY : 999999999);
            }
            check.due("seven of eight: length", x.plan(), 28);
            check.due("seven of eight: box " + last + " waits", x.standby(0), last);
            check.due("seven of eight: no other one waits", x.standby(1), -1);
        }
        TrainLoads equal = Trains.of(1, 1);
        Trains.addDays(equal, 7, 7, 7, 7, 7, 7, 7, 7);
        equal.plan();
        dueWagons("one place, all on one day", equal, 0, -1, -1, -1, -1, -1, -1, -1);
    }

    /** Terms: "of such the one with the least wagon for box 0, then box 1, and so on". */
    private static void planOfLeastWagons() {
        TrainLoads x = Trains.of(3, 1);
        Trains.addDays(x, 9, 1);
        x.plan();
        dueWagons("by number, not by booking", x, 0, 1);
        x.pattern(0, 11);
        x.plan();
        dueWagons("both on the least", x, 0, 0);
        Trains.addDays(x, 0);
        x.plan();
        dueWagons("the third on the next", x, 0, 0, 1);
        TrainLoads y = new TrainLoads();
        y.wagon(30, 10, 1, 10);
        y.pattern(0, 1);
        y.wagon(30, 10, 1, 5);
        y.pattern(1, 1);
        y.box(1, 1, 5, 0, 0);
        y.plan();
        dueWagons("the least for box 0", y, 0);
        y.box(1, 1, 10, 0, 1);
        check.due("box 0 makes room", y.plan(), 8);
        dueWagons("box 0 makes room", y, 1, 0);
    }

    /** Terms: "(only of those loaded)". */
    private static void planOfLeastWagonsOfThoseLoaded() {
        TrainLoads x = Trains.of(3, 1);
        x.box(2, 1, 1, 0, 0);
        x.box(1, 1, 1, 0, 0);
        x.box(3, 1, 1, 0, 0);
        x.box(1, 1, 1, 0, 0);
        x.plan();
        dueWagons("boxes that find no place between", x, -1, 0, -1, 1);
    }

    private static void planNotByWagonsBeforeLength() {
        TrainLoads x = Trains.of(3, 1);
        x.pattern(0, 2);
        x.box(1, 1, 1, 0, 0);
        x.box(1, 1, 1, 0, 0);
        x.box(2, 1, 1, 0, 9);
        check.due("more length before less wagons", x.plan(), 16);
        dueWagons("more length before less wagons", x, 1, 2, 0);
    }

    private static void planAgain() {
        TrainLoads x = Trains.full();
        int length = x.plan();
        String answers = Answers.of(x);
        check.due("plan again", x.plan(), length);
        check.dueText("plan again: the same answers", Answers.of(x), answers);
        x.cut(Trains.LAST_DAY);
        check.due("plan anew", x.plan(), length);
        check.dueText("plan anew: the same answers", Answers.of(x), answers);
    }

    private static void at() {
        atOfBoxLoaded();
        atOfBoxNotLoaded();
        atOfNoBox();
        atOfNoWhat();
        atWithoutPlan();
        atExceptionTold();
    }

    /** Promise 9: "what 0: its wagon, 1: its place in the pattern, from the left". */
    private static void atOfBoxLoaded() {
        TrainLoads x = Trains.of(1, 1212);
        x.wagon(30, 10, 1, 10);
        x.pattern(1, 311);
        Trains.addSizes(x, 2, 1, 2, 1, 1, 3);
        check.due("at: length", x.plan(), 37);
        dueWagons("at", x, 0, 0, 0, 0, 1, 1);
        int[] places = {1, 0, 3, 2, 1, 0};
        for (int box = 0; box < places.length; box++) {
            check.due("at: place of box " + box, x.at(box, 1), places[box]);
        }
    }

    /** Promise 9: "NONE if it is not loaded". */
    private static void atOfBoxNotLoaded() {
        TrainLoads x = Trains.of(1, 1);
        Trains.addSizes(x, 2, 1);
        x.plan();
        check.due("at: wagon of a box not loaded", x.at(0, 0), TrainLoads.NONE);
        check.due("at: place of a box not loaded", x.at(0, 1), TrainLoads.NONE);
        check.due("at: wagon of the other", x.at(1, 0), 0);
        check.due("at: place of the other", x.at(1, 1), 0);
    }

    /** Promise 9: "IndexOutOfBoundsException if there is no such box". */
    private static void atOfNoBox() {
        for (int boxes = 0; boxes <= 8; boxes++) {
            TrainLoads x = Trains.of(1, 1);
            Trains.addSizes(x, Arrays.copyOf(new int[] {1, 2, 3, 1, 2, 3, 1, 2}, boxes));
            x.plan();
            for (int box = boxes; box <= 10; box++) {
                dueNoBox(x, box);
            }
            for (int box : Far.INTS) {
                dueNoBox(x, box);
            }
            if (boxes > 0) {
                check.due("at: the last box", x.at(boxes - 1, 0), boxes == 1 ? 0 : -1);
            }
        }
    }

    private static void dueNoBox(TrainLoads x, int box) {
        check.dueThrow("at: wagon of box " + box, () -> x.at(box, 0), INDEX);
        check.dueThrow("at: place of box " + box, () -> x.at(box, 1), INDEX);
    }

    /** Promise 9: "IndexOutOfBoundsException if there is no such .. what". */
    private static void atOfNoWhat() {
        TrainLoads x = Trains.of(1, 1);
        Trains.addSizes(x, 1, 2);
        x.plan();
        for (int box = 0; box < 2; box++) {
            int asked = box;
            for (int what = 2; what <= 12; what++) {
                int wrong = what;
                check.dueThrow("at: what " + what, () -> x.at(asked, wrong), INDEX);
            }
            for (int what : Far.INTS) {
                check.dueThrow("at: what " + what, () -> x.at(asked, what), INDEX);
            }
        }
    }

    /** Promise 9: "NoSuchElementException without a plan". */
    private static void atWithoutPlan() {
        TrainLoads x = Trains.of(1, 1);
        Trains.addSizes(x, 1);
        check.dueThrow("at: wagon, no plan yet", () -> x.at(0, 0), ELEMENT);
        check.dueThrow("at: place, no plan yet", () -> x.at(0, 1), ELEMENT);
        x.plan();
        x.cut(5);
        check.dueThrow("at: wagon, plan void", () -> x.at(0, 0), ELEMENT);
        check.dueThrow("at: place, plan void", () -> x.at(0, 1), ELEMENT);
    }

    /** "Of several exceptions the one told first is thrown". */
    private static void atExceptionTold() {
        TrainLoads x = new TrainLoads();
        check.dueThrow("at: no plan, no box", () -> x.at(0, 0), INDEX);
        check.dueThrow("at: no plan, no box, no what", () -> x.at(0, 2), INDEX);
        Trains.addSizes(x, 1);
        check.dueThrow("at: no plan, box -1", () -> x.at(-1, 0), INDEX);
        check.dueThrow("at: no plan, box 1", () -> x.at(1, 0), INDEX);
        check.dueThrow("at: no plan, what -1", () -> x.at(0, -1), INDEX);
        check.dueThrow("at: no plan, what 2", () -> x.at(0, 2), INDEX);
    }

    private static void load() {
        loadOfBoxes();
        loadOfNone();
        loadOfMost();
        loadOfNoWagon();
        loadOfNoWhat();
        loadWithoutPlan();
        loadExceptionTold();
    }

    /** Promise 10: "what 0: its PATTERN .., 1: boxes, 2: length that is used, 3: weight". */
    private static void loadOfBoxes() {
        TrainLoads x = Trains.of(2, 1, 31, 13);
        x.box(1, 7, 1, 0, 0);
        x.plan();
        dueLoad("one box", x, 0, 0, 1, 4, 7);
        dueLoad("none beside", x, 1, -1, 0, 0, 0);
        x.box(3, 6, 1, 0, 0);
        x.plan();
        dueLoad("two boxes", x, 0, 1, 2, 13, 13);
        x.box(3, 100, 1, 0, 0);
        x.plan();
        dueLoad("two boxes still", x, 0, 1, 2, 13, 13);
        dueLoad("one on the other", x, 1, 1, 1, 9, 100);
    }

    /** Promise 10: "NONE if it is empty". */
    private static void loadOfNone() {
        TrainLoads x = Trains.of(1, 1);
        x.plan();
        dueLoad("no boxes", x, 0, -1, 0, 0, 0);
        x.wagon(30, 10, 1, 10);
        x.plan();
        dueLoad("no patterns", x, 1, -1, 0, 0, 0);
        Trains.addSizes(x, 1);
        x.plan();
        dueLoad("loaded", x, 0, 0, 1, 4, 1);
        x.out(0, true);
        x.plan();
        dueLoad("out", x, 0, -1, 0, 0, 0);
    }

    /** As many boxes, as much length and weight as a wagon may have. */
    private static void loadOfMost() {
        TrainLoads x = Trains.of(3, 1, 2, 3, 1233);
        for (int size : new int[] {1, 2, 3, 3}) {
            x.box(size, 250000, 100, 0, 0);
        }
        check.due("a full wagon: length", x.plan(), 30);
        dueLoad("a full wagon", x, 0, 3, 4, 30, 1000000);
        Trains.addWeights(x, 1);
        x.plan();
        dueLoad("a full wagon as it was", x, 0, 3, 4, 30, 1000000);
        dueLoad("the next one", x, 1, 0, 1, 4, 1);
        TrainLoads y = Trains.of(1, 1);
        Trains.addWeights(y, 0);
        y.plan();
        dueLoad("a box of no weight", y, 0, 0, 1, 4, 0);
    }

    /** Promise 10: "IndexOutOfBoundsException if there is no such wagon". */
    private static void loadOfNoWagon() {
        for (int wagons = 0; wagons <= 3; wagons++) {
            TrainLoads x = Trains.of(wagons, 1);
            x.plan();
            for (int wagon = wagons; wagon <= 13; wagon++) {
                dueNoLoad(x, wagon);
            }
            for (int wagon : Far.INTS) {
                dueNoLoad(x, wagon);
            }
            if (wagons > 0) {
                check.due("load: the last wagon", x.load(wagons - 1, 1), 0);
            }
        }
    }

    private static void dueNoLoad(TrainLoads x, int wagon) {
        for (int what = 0; what < 4; what++) {
            int asked = what;
            check.dueThrow("load: of wagon " + wagon + ", " + what, () -> x.load(wagon, asked), INDEX);
        }
    }

    /** Promise 10: "IndexOutOfBoundsException if there is no such .. what". */
    private static void loadOfNoWhat() {
        TrainLoads x = Trains.of(1, 1);
        x.plan();
        for (int what = 4; what <= 14; what++) {
            int wrong = what;
            check.dueThrow("load: what " + what, () -> x.load(0, wrong), INDEX);
        }
        for (int what : Far.INTS) {
            check.dueThrow("load: what " + what, () -> x.load(0, what), INDEX);
        }
    }

    /** Promise 10: "NoSuchElementException without a plan". */
    private static void loadWithoutPlan() {
        TrainLoads x = Trains.of(1, 1);
        for (int what = 0; what < 4; what++) {
            int asked = what;
            x.cut(what);
            check.dueThrow("load: no plan, " + what, () -> x.load(0, asked), ELEMENT);
            x.plan();
            check.due("load: a plan, " + what, x.load(0, what), what == 0 ? -1 : 0);
            x.cut(what);
            check.dueThrow("load: plan void, " + what, () -> x.load(0, asked), ELEMENT);
        }
    }

    /** "Of several exceptions the one told first is thrown". */
    private static void loadExceptionTold() {
        TrainLoads x = new TrainLoads();
        check.dueThrow("load: no plan, no wagon", () -> x.load(0, 0), INDEX);
        check.dueThrow("load: no plan, no wagon, no what", () -> x.load(0, 4), INDEX);
        x.wagon(30, 10, 1, 10);
        check.dueThrow("load: no plan, wagon -1", () -> x.load(-1, 0), INDEX);
        check.dueThrow("load: no plan, wagon 1", () -> x.load(1, 0), INDEX);
        check.dueThrow("load: no plan, what -1", () -> x.load(0, -1), INDEX);
        check.dueThrow("load: no plan, what 4", () -> x.load(0, 4), INDEX);
    }

    private static void axle() {
        axleOfWeights();
        axleOfEmptyWagon();
        axleOfNone();
        axleOfNoWagonOrSide();
        axleWithoutPlan();
        axleExceptionTold();
    }

    /** Promise 11: "side 0: whole, 1: what is left", for all numbers of axles. */
    private static void axleOfWeights() {
        long[] weights = {0, 1, 2, 3, 4, 5, 6, 7, 8, 9, 20, 27, 839, 840, 841, 999999, 1000000};
        for (int axles = 1; axles <= 8; axles++) {
            for (long weight : weights) {
                TrainLoads x = new TrainLoads();
                x.wagon(30, 1000000, axles, 100);
                x.pattern(0, 1);
                Trains.addWeights(x, weight);
                x.plan();
                String what = "axle: " + weight + " on " + axles;
                long whole = x.axle(0, 0);
                long left = x.axle(0, 1);
                check.due(what + ": all together", whole * axles + left, weight);
                check.due(what + ": less is left than there are axles", 0 <= left && left < axles, true);
            }
        }
        TrainLoads x = new TrainLoads();
        x.wagon(30, 1000000, 8, 100);
        x.pattern(0, 11);
        Trains.addWeights(x, 999990, 9);
        x.plan();
        check.due("axle: 999999 on 8, whole", x.axle(0, 0), 124999);
        check.due("axle: 999999 on 8, left", x.axle(0, 1), 7);
    }

    private static void axleOfEmptyWagon() {
        TrainLoads x = Trains.of(3, 1);
        Trains.addWeights(x, 5);
        x.plan();
        check.due("axle: nothing on it, whole", x.axle(2, 0), 0);
        check.due("axle: nothing on it, left", x.axle(2, 1), 0);
    }

    /** Promise 11: "ArithmeticException if it has no axles", whether it is empty or not. */
    private static void axleOfNone() {
        TrainLoads x = new TrainLoads();
        x.wagon(30, 1000000, 0, 100);
        x.plan();
        check.dueThrow("axle: none, empty, whole", () -> x.axle(0, 0), ARITHMETIC);
        check.dueThrow("axle: none, empty, left", () -> x.axle(0, 1), ARITHMETIC);
        x.pattern(0, 1);
        Trains.addWeights(x, 5);
        x.plan();
        check.dueThrow("axle: none, loaded, whole", () -> x.axle(0, 0), ARITHMETIC);
        check.dueThrow("axle: none, loaded, left", () -> x.axle(0, 1), ARITHMETIC);
        x.out(0, true);
        x.plan();
        check.dueThrow("axle: none, out", () -> x.axle(0, 0), ARITHMETIC);
    }

    /** Promise 11: "IndexOutOfBoundsException if there is no such wagon or side". */
    private static void axleOfNoWagonOrSide() {
        for (int wagons = 0; wagons <= 3; wagons++) {
            TrainLoads x = Trains.of(wagons, 1);
            x.plan();
            for (int number = wagons; number <= 13; number++) {
                int wagon = number;
                check.dueThrow("axle: of wagon " + wagon, () -> x.axle(wagon, 0), INDEX);
                check.dueThrow("axle: left of wagon " + wagon, () -> x.axle(wagon, 1), INDEX);
            }
            for (int far : Far.INTS) {
                check.dueThrow("axle: of wagon " + far, () -> x.axle(far, 0), INDEX);
                check.dueThrow("axle: side " + far, () -> x.axle(0, far), INDEX);
            }
            for (int number = 2; number <= 10; number++) {
                int side = number;
                check.dueThrow("axle: side " + side, () -> x.axle(0, side), INDEX);
            }
        }
    }

    /** Promise 11: "NoSuchElementException without a plan". */
    private static void axleWithoutPlan() {
        TrainLoads x = Trains.of(1, 1);
        check.dueThrow("axle: whole, no plan yet", () -> x.axle(0, 0), ELEMENT);
        check.dueThrow("axle: left, no plan yet", () -> x.axle(0, 1), ELEMENT);
        x.plan();
        x.cut(5);
        check.dueThrow("axle: whole, plan void", () -> x.axle(0, 0), ELEMENT);
        check.dueThrow("axle: left, plan void", () -> x.axle(0, 1), ELEMENT);
    }

    /** "Of several exceptions the one told first is thrown". */
    private static void axleExceptionTold() {
        TrainLoads x = new TrainLoads();
        check.dueThrow("axle: no plan, no wagon", () -> x.axle(0, 0), INDEX);
        x.wagon(30, 10, 0, 10);
        check.dueThrow("axle: no plan, no axles, wagon 1", () -> x.axle(1, 0), INDEX);
        check.dueThrow("axle: no plan, no axles, side 2", () -> x.axle(0, 2), INDEX);
        check.dueThrow("axle: no plan, no axles, side -1", () -> x.axle(0, -1), INDEX);
        check.dueThrow("axle: no plan, no axles", () -> x.axle(0, 0), ELEMENT);
        check.dueThrow("axle: no plan, no axles, left", () -> x.axle(0, 1), ELEMENT);
        x.plan();
        check.dueThrow("axle: no axles, wagon 1", () -> x.axle(1, 0), INDEX);
        check.dueThrow("axle: no axles, side 2", () -> x.axle(0, 2), INDEX);
        check.dueThrow("axle: no axles, side -1", () -> x.axle(0, -1), INDEX);
        check.dueThrow("axle: no axles", () -> x.axle(0, 0), ARITHMETIC);
    }

    private static void standby() {
        standbyInOrder();
        standbyOfAll();
        standbyOfNone();
        standbyOutside();
        standbyWithoutPlan();
    }

    /** Promise 12: "The i-th box, in order of booking, that the plan does not load". */
    private static void standbyInOrder() {
        TrainLoads x = Trains.of(1, 1);
        Trains.addDays(x, 5, 3, 9, 5, 1);
        x.cut(8);
        x.plan();
        int[] due = {1, 0, 3, 2, -1, -1};
        for (int i = 0; i < due.length; i++) {
            check.due("standby: " + i, x.standby(i), due[i]);
        }
    }

    private static void standbyOfAll() {
        TrainLoads x = new TrainLoads();
        Trains.addDays(x, 8, 7, 6, 5, 4, 3, 2, 1);
        x.plan();
        for (int i = 0; i < 8; i++) {
            check.due("standby of all: " + i, x.standby(i), 7 - i);
        }
        check.due("standby of all: 8", x.standby(8), -1);
        check.due("standby of all: -1", x.standby(-1), -1);
    }

    /** Promise 12: "NONE without". */
    private static void standbyOfNone() {
        TrainLoads x = new TrainLoads();
        x.plan();
        check.due("standby: no boxes", x.standby(0), -1);
        TrainLoads y = Trains.of(2, 1111);
        Trains.addDays(y, 1, 2, 3, 4, 5, 6, 7, 8);
        y.plan();
        for (int i = -1; i <= 9; i++) {
            check.due("standby: all loaded, " + i, y.standby(i), -1);
        }
    }

    private static void standbyOutside() {
        TrainLoads x = new TrainLoads();
        Trains.addDays(x, 2, 1);
        x.plan();
        for (int i = 2; i <= 12; i++) {
            check.due("standby: " + i, x.standby(i), -1);
        }
        for (int i : Far.INTS) {
            check.due("standby: " + i, x.standby(i), -1);
        }
    }

    /** Promise 12: "NoSuchElementException without a plan". */
    private static void standbyWithoutPlan() {
        TrainLoads x = new TrainLoads();
        for (int i = -1; i <= 9; i++) {
            int asked = i;
            check.dueThrow("standby: nothing there, no plan, " + i, () -> x.standby(asked), ELEMENT);
        }
        Trains.addSizes(x, 1);
        x.plan();
        x.cut(5);
        check.dueThrow("standby: plan void", () -> x.standby(0), ELEMENT);
        check.dueThrow("standby: plan void, least", () -> x.standby(Integer.MIN_VALUE), ELEMENT);
        check.dueThrow("standby: plan void, greatest", () -> x.standby(Integer.MAX_VALUE), ELEMENT);
    }

    private static void dueLoad(String what, TrainLoads x, int wagon, int... due) {
        for (int i = 0; i < due.length; i++) {
            check.due("load: " + what + " " + i, x.load(wagon, i), due[i]);
        }
    }

    private static void dueWagons(String what, TrainLoads x, int... due) {
        for (int box = 0; box < due.length; box++) {
            check.due(what + ": wagon of box " + box, x.at(box, 0), due[box]);
        }
    }
}
