import java.util.Arrays;

/** The Terms: order of booking, rules, loadings that may be, places. Comments quote the sentence that is tested. */
public final class TermsTest {
    private static final Check check = new Check();

    public static void main(String[] args) {
        places();
        orderOfBooking();
        rules();
        loadings();
        boxesInPlaces();
        check.end("TermsTest");
    }

    private static void places() {
        lengthsOfSizes();
        digitsFromTheLeft();
    }

    /** "1, 2, 3 of lengths 4, 8, 9". */
    private static void lengthsOfSizes() {
        int[] lengths = {4, 8, 9};
        for (int size = 1; size <= 3; size++) {
            int length = lengths[size - 1];
            TrainLoads x = new TrainLoads();
            int told = size;
            x.wagon(length - 1, 1, 1, 1);
            check.dueThrow("size " + size + " on a wagon one shorter", () -> x.pattern(0, told),
                IllegalArgumentException.class);
            x.wagon(length, 1, 1, 1);
            check.due("size " + size + " on a wagon just as long", x.pattern(1, size), 0);
            x.box(size, 1, 1, 0, 0);
            check.due("length of size " + size, x.plan(), length);
        }
    }

    /** "its decimal digits are the sizes from the left", over all patterns that there may be. */
    private static void digitsFromTheLeft() {
        for (int pattern : Trains.patternsUpTo(Trains.LENGTH)) {
            int[] sizes = Trains.sizesOf(pattern);
            TrainLoads x = Trains.of(1, pattern);
            Trains.addSizes(x, sizes);
            check.due("pattern " + pattern + ": all its places filled", x.plan(),
                Trains.lengthOf(String.valueOf(pattern)));
            boolean[] taken = new boolean[sizes.length];
            for (int box = 0; box < sizes.length; box++) {
                int place = x.at(box, 1);
                boolean isThere = 0 <= place && place < sizes.length;
                check.due("pattern " + pattern + ": a place of its own size, not taken yet",
                    isThere && sizes[place] == sizes[box] && !taken[place], true);
                taken[isThere ? place : 0] = true;
            }
        }
    }

    private static void orderOfBooking() {
        orderByDay();
        orderOfEqualDays();
        orderOfSomeEqualDays();
        orderOfFarDays();
    }

    /** "by BOOKED". */
    private static void orderByDay() {
        dueOrder("days upwards", new long[] {0, 1, 2, 3, 4, 5, 6, 7}, 0, 1, 2, 3, 4, 5, 6, 7);
        dueOrder("days downwards", new long[] {7, 6, 5, 4, 3, 2, 1, 0}, 7, 6, 5, 4, 3, 2, 1, 0);
        dueOrder("one box", new long[] {5}, 0);
        dueOrder("no box", new long[] {});
    }

    /** "of equal ones the least number first". */
    private static void orderOfEqualDays() {
        for (long day : new long[] {0, 1, Trains.LAST_DAY}) {
            long[] days = new long[8];
            Arrays.fill(days, day);
            dueOrder("all on day " + day, days, 0, 1, 2, 3, 4, 5, 6, 7);
        }
    }

    private static void orderOfSomeEqualDays() {
        dueOrder("two days in turn", new long[] {5, 3, 5, 3, 5, 3, 5, 3}, 1, 3, 5, 7, 0, 2, 4, 6);
        dueOrder("the last is first", new long[] {4, 4, 4, 4, 4, 4, 4, 3}, 7, 0, 1, 2, 3, 4, 5, 6);
        dueOrder("the first is last", new long[] {5, 4, 4, 4, 4, 4, 4, 4}, 1, 2, 3, 4, 5, 6, 7, 0);
    }

    private static void orderOfFarDays() {
        dueOrder("first and last day", new long[] {Trains.LAST_DAY, 0, 999999999, 1, Trains.LAST_DAY, 0},
            1, 5, 3, 2, 0, 4);
    }

    private static void dueOrder(String what, long[] days, int... due) {
        TrainLoads x = new TrainLoads();
        Trains.addDays(x, days);
        x.plan();
        for (int i = 0; i < due.length; i++) {
            check.due("order of booking, " + what + ": " + i, x.standby(i), due[i]);
        }
        check.due("order of booking, " + what + ": no more", x.standby(due.length), -1);
    }

    private static void rules() {
        for (int a = 1; a <= 3; a++) {
            for (int b = 1; b <= 3; b++) {
                for (int rule = 0; rule <= 2; rule++) {
                    ruleForAllKinds(a, b, rule);
                }
            }
        }
        neighboursDifferByOne();
        neighboursWhetherOthersAreOut();
        neighboursOnBothSides();
        neighboursNoFurther();
        kindWithItselfNeedsTwo();
        ruleHoldsForAllOnTheWagon();
        noDangerNoRule();
    }

    /** "1 not on one wagon, 2 not on one or on neighbouring wagons", "Also of a kind with itself". */
    private static void ruleForAllKinds(int a, int b, int rule) {
        for (int c = 0; c <= 3; c++) {
            for (int d = 0; d <= 3; d++) {
                String what = "rule " + rule + " of " + a + " and " + b + ", boxes of " + c + " and " + d;
                int held = c == a && d == b || c == b && d == a ? rule : 0;
                check.due(what + ", one wagon", lengthUnderRule(1, 11, a, b, rule, c, d), held == 0 ? 8 : 4);
                check.due(what + ", neighbours", lengthUnderRule(2, 1, a, b, rule, c, d), held < 2 ? 8 : 4);
            }
        }
    }

    private static int lengthUnderRule(int wagons, int pattern, int... told) {
        TrainLoads x = Trains.of(wagons, pattern);
        x.rule(told[0], told[1], told[2]);
        Trains.addDangers(x, told[3], told[4]);
        return x.plan();
    }

    /** "numbers that differ by 1". */
    private static void neighboursDifferByOne() {
        for (int missing = 0; missing < 3; missing++) {
            TrainLoads x = Trains.of(3);
            for (int wagon = 0; wagon < 3; wagon++) {
                if (wagon != missing) {
                    x.pattern(wagon, 1);
                }
            }
            Trains.addDangers(x, 1, 2);
            x.rule(1, 2, 2);
            check.due("neighbours, without places on " + missing, x.plan(), missing == 1 ? 8 : 4);
            x.rule(1, 2, 1);
            check.due("no rule for neighbours, without places on " + missing, x.plan(), 8);
        }
    }

    /** "whether others are out or not". */
    private static void neighboursWhetherOthersAreOut() {
        for (int out = 0; out < 3; out++) {
            TrainLoads x = Trains.of(3, 1);
            Trains.addDangers(x, 3, 3);
            x.rule(3, 3, 2);
            x.out(out, true);
            check.due("neighbours, " + out + " is out", x.plan(), out == 1 ? 8 : 4);
            check.due("neighbours, " + out + " is out: the first one", x.at(0, 0), out == 0 ? 1 : 0);
            check.due("neighbours, " + out + " is out: the second one", x.at(1, 0), out == 1 ? 2 : -1);
            x.out(out, false);
            check.due("neighbours, none is out", x.plan(), 8);
            check.due("neighbours, none is out: the first one", x.at(0, 0), 0);
            check.due("neighbours, none is out: the second one", x.at(1, 0), 2);
        }
    }

    /** The box in the middle has neighbours of less and of greater number. */
    private static void neighboursOnBothSides() {
        for (int danger = 1; danger <= 2; danger++) {
            TrainLoads x = Trains.of(3);
            x.pattern(0, 1);
            x.pattern(1, 2);
            x.pattern(2, 3);
            x.box(2, 1, 1, 3, 0);
            x.box(danger == 1 ? 1 : 3, 1, 1, danger, 0);
            x.rule(3, danger, 2);
            check.due("neighbours, the other one on " + (danger == 1 ? 0 : 2), x.plan(), danger == 1 ? 8 : 9);
            x.rule(3, danger, 1);
            check.due("neighbours under rule 1", x.plan(), danger == 1 ? 12 : 17);
        }
    }

    /** "numbers that differ by 1": two wagons apart is far enough, whichever of the two boxes has the lesser number. */
    private static void neighboursNoFurther() {
        for (int first = 0; first <= 2; first += 2) {
            TrainLoads x = Trains.of(3);
            x.pattern(0, 1);
            x.pattern(1, 3);
            x.pattern(2, 2);
            x.box(first == 0 ? 1 : 2, 1, 1, 3, 0);
            x.box(first == 0 ? 2 : 1, 1, 1, 3, 0);
            x.rule(3, 3, 2);
            check.due("two wagons apart: length", x.plan(), 12);
            check.due("two wagons apart: box 0", x.at(0, 0), first);
            check.due("two wagons apart: box 1", x.at(1, 0), 2 - first);
            x.box(3, 1, 1, 3, 0);
            check.due("one between them: length", x.plan(), 12);
            check.due("one between them: it waits", x.at(2, 0), -1);
        }
    }

    /** "Also of a kind with itself": a box alone breaks no rule. */
    private static void kindWithItselfNeedsTwo() {
        for (int danger = 1; danger <= 3; danger++) {
            TrainLoads x = Trains.of(3, 111);
            Trains.addDangers(x, danger, 0, 0);
            x.rule(danger, danger, 2);
            check.due("one of kind " + danger, x.plan(), 12);
            Trains.addDangers(x, danger);
            check.due("two of kind " + danger, x.plan(), 16);
            check.due("two of kind " + danger + ": the second stands apart", x.at(3, 0), 2);
            Trains.addDangers(x, danger);
            check.due("three of kind " + danger, x.plan(), 16);
            check.due("three of kind " + danger + ": the last waits", x.at(4, 0), -1);
        }
    }

    /** "all RULES hold": with each box that stands there, not only with the first or the last. */
    private static void ruleHoldsForAllOnTheWagon() {
        for (int place = 0; place < 3; place++) {
            TrainLoads x = Trains.of(1, 1111);
            int[] dangers = {0, 0, 0, 1};
            dangers[place] = 2;
            Trains.addDangers(x, dangers);
            x.rule(1, 2, 1);
            check.due("a rule with box " + place + ": length", x.plan(), 12);
            check.due("a rule with box " + place + ": the last waits", x.at(3, 0), -1);
        }
    }

    /** "DANGER (0 none": no rule is ever of such a box. */
    private static void noDangerNoRule() {
        TrainLoads x = Trains.of(1, 1111);
        for (int a = 1; a <= 3; a++) {
            for (int b = 1; b <= 3; b++) {
                x.rule(a, b, 2);
            }
        }
        Trains.addDangers(x, 0, 0, 0, 3);
        check.due("boxes without danger beside one of kind 3", x.plan(), 16);
    }

    private static void loadings() {
        wagonOutIsEmpty();
        allWagonsOut();
        patternWithAsManyPlaces();
        patternWithMorePlaces();
        patternsDoNotAdd();
        leastPattern();
        emptyWagonNeedsNone();
        weightsTogether();
        weightOfNothing();
        weightsOfEachWagon();
        gauge();
        gaugeForEachBox();
    }

    /** "it is not OUT unless empty". */
    private static void wagonOutIsEmpty() {
        TrainLoads x = Trains.of(2, 11);
        Trains.addSizes(x, 1, 1, 1);
        check.due("none out: length", x.plan(), 12);
        x.out(0, true);
        check.due("wagon 0 out: length", x.plan(), 8);
        check.due("wagon 0 out: boxes on it", x.load(0, 1), 0);
        check.due("wagon 0 out: boxes on the other", x.load(1, 1), 2);
    }

    private static void allWagonsOut() {
        TrainLoads x = Trains.of(3, 1);
        Trains.addSizes(x, 1);
        for (int wagon = 0; wagon < 3; wagon++) {
            x.out(wagon, true);
        }
        check.due("all wagons out: the empty loading", x.plan(), 0);
        check.due("all wagons out: the box waits", x.standby(0), 0);
    }

    /** "a pattern with as many places of each size .. as boxes of it are there": one box more is too many. */
    private static void patternWithAsManyPlaces() {
        for (int pattern : Trains.patternsUpTo(Trains.LENGTH)) {
            for (int size = 1; size <= 3; size++) {
                TrainLoads x = Trains.of(1, pattern);
                Trains.addSizes(x, Trains.sizesOf(pattern));
                x.box(size, 0, 1, 0, 1);
                int boxes = String.valueOf(pattern).length();
                check.due("pattern " + pattern + " and one more of " + size, x.plan(),
                    Trains.lengthOf(String.valueOf(pattern)));
                check.due("pattern " + pattern + ": the one more waits", x.at(boxes, 0), -1);
            }
        }
    }

    /** ".. or more". */
    private static void patternWithMorePlaces() {
        for (int pattern : Trains.patternsUpTo(Trains.LENGTH)) {
            for (int size = 1; size <= 3; size++) {
                TrainLoads x = Trains.of(1, pattern);
                Trains.addSizes(x, size);
                boolean hasPlace = String.valueOf(pattern).contains(String.valueOf(size));
                check.due("pattern " + pattern + " with one box of " + size, x.plan(),
                    hasPlace ? Trains.lengthOf(String.valueOf(size)) : 0);
            }
        }
    }

    /** "there is a pattern": one alone must hold all. */
    private static void patternsDoNotAdd() {
        TrainLoads x = Trains.of(1, 1, 2, 3);
        Trains.addSizes(x, 1, 2, 3);
        check.due("patterns 1, 2, 3: length", x.plan(), 9);
        x.pattern(0, 123);
        check.due("patterns 1, 2, 3, 123: length", x.plan(), 21);
    }

    /** "of such the least one is the wagon's PATTERN": the one of least number, not the shortest. */
    private static void leastPattern() {
        TrainLoads x = Trains.of(1, 3, 31, 1, 1);
        Trains.addSizes(x, 1);
        x.plan();
        check.due("least pattern with a place of size 1", x.load(0, 0), 1);
        check.due("place in that pattern", x.at(0, 1), 1);
        Trains.addSizes(x, 3);
        x.plan();
        check.due("least pattern for sizes 1 and 3", x.load(0, 0), 1);
        TrainLoads same = Trains.of(1, 2, 2, 2, 2);
        Trains.addSizes(same, 2);
        same.plan();
        check.due("least of four equal ones", same.load(0, 0), 0);
        TrainLoads last = Trains.of(1, 1, 2, 11, 3);
        Trains.addSizes(last, 3);
        last.plan();
        check.due("only the last one", last.load(0, 0), 3);
    }

    /** "an empty wagon needs none". */
    private static void emptyWagonNeedsNone() {
        TrainLoads x = Trains.of(3);
        x.pattern(1, 1);
        Trains.addSizes(x, 1, 2);
        check.due("wagons without patterns: length", x.plan(), 4);
        check.due("wagons without patterns: the box is on the one with", x.at(0, 0), 1);
        for (int wagon = 0; wagon < 3; wagon++) {
            check.due("pattern of wagon " + wagon, x.load(wagon, 0), wagon == 1 ? 0 : -1);
        }
    }

    /** "their weights together are not above its most". */
    private static void weightsTogether() {
        long[] mosts = {0, 1, 7, 999999, 1000000};
        for (long most : mosts) {
            TrainLoads x = new TrainLoads();
            x.wagon(30, most, 1, 1);
            x.pattern(0, 11);
            Trains.addWeights(x, most / 2, most - most / 2);
            check.due("weights just the most, " + most, x.plan(), 8);
            check.due("weights just the most, load", x.load(0, 3), most);
            TrainLoads y = new TrainLoads();
            y.wagon(30, most, 1, 1);
            y.pattern(0, 11);
            Trains.addWeights(y, most / 2, most - most / 2 + 1);
            check.due("weights one above the most, " + most, y.plan(), 4);
        }
    }

    private static void weightOfNothing() {
        TrainLoads x = new TrainLoads();
        x.wagon(30, 0, 1, 1);
        x.pattern(0, 1111);
        Trains.addWeights(x, 0, 0, 1, 0, 1000000, 0);
        check.due("four boxes of no weight on a wagon for none", x.plan(), 16);
        check.due("a box of weight 1 waits", x.at(2, 0), -1);
        check.due("a box of weight 1000000 waits", x.at(4, 0), -1);
    }

    private static void weightsOfEachWagon() {
        TrainLoads x = Trains.of(3, 1111);
        Trains.addWeights(x, 1000000, 1000000, 1000000, 0, 1000000);
        check.due("greatest weights: length", x.plan(), 16);
        for (int wagon = 0; wagon < 3; wagon++) {
            check.due("greatest weight on wagon " + wagon, x.load(wagon, 3), 1000000);
        }
        check.due("no weight finds a place beside", x.at(3, 0), 0);
        check.due("the fourth waits", x.at(4, 0), -1);
    }

    /** "none is higher than the GAUGE". */
    private static void gauge() {
        for (int gauge = 1; gauge <= 100; gauge++) {
            TrainLoads x = new TrainLoads();
            x.wagon(30, 10, 1, gauge);
            x.pattern(0, 11);
            x.box(1, 1, gauge, 0, 0);
            check.due("as high as the gauge " + gauge, x.plan(), 4);
            if (gauge < 100) {
                x.box(1, 1, gauge + 1, 0, 0);
                check.due("one higher than the gauge " + gauge, x.plan(), 4);
                check.due("one higher waits", x.at(1, 0), -1);
            }
        }
    }

    private static void gaugeForEachBox() {
        for (int high = 0; high < 4; high++) {
            TrainLoads x = new TrainLoads();
            x.wagon(30, 10, 1, 50);
            x.pattern(0, 1111);
            for (int box = 0; box < 4; box++) {
                x.box(1, 1, box == high ? 100 : 1, 0, 0);
            }
            check.due("box " + high + " too high: length", x.plan(), 12);
            check.due("box " + high + " too high: it waits", x.at(high, 0), -1);
        }
    }

    private static void boxesInPlaces() {
        placesFromTheLeft();
        placesByNumberNotByBooking();
        placesOfEachWagonAlone();
    }

    /** "Boxes stand in the PATTERN'S places of their size from the left": places left over are on the right. */
    private static void placesFromTheLeft() {
        duePlaces("fewer boxes than places", 1111, new int[] {1, 1}, 0, 1);
        duePlaces("size 2 between", 1212, new int[] {2}, 1);
        duePlaces("sizes in turn", 1212, new int[] {2, 1, 2, 1}, 1, 0, 3, 2);
        duePlaces("size 3 at the end", 213, new int[] {3, 2}, 2, 0);
        duePlaces("one place", 3, new int[] {3}, 0);
        duePlaces("the fourth place", 2113, new int[] {3}, 3);
        duePlaces("two of size 3", 3123, new int[] {3, 3}, 0, 3);
    }

    private static void duePlaces(String what, int pattern, int[] sizes, int... due) {
        TrainLoads x = Trains.of(1, pattern);
        Trains.addSizes(x, sizes);
        x.plan();
        for (int box = 0; box < due.length; box++) {
            check.due("places, " + what + ": box " + box, x.at(box, 1), due[box]);
        }
    }

    /** "in order of their numbers". */
    private static void placesByNumberNotByBooking() {
        TrainLoads x = Trains.of(1, 1111);
        Trains.addDays(x, 9, 8, 7, 6);
        x.plan();
        for (int box = 0; box < 4; box++) {
            check.due("place of box " + box + ", booked backwards", x.at(box, 1), box);
        }
        x.box(1, 1, 1, 0, 0);
        x.plan();
        int[] due = {-1, 0, 1, 2, 3};
        for (int box = 0; box < 5; box++) {
            check.due("place of box " + box + ", box 0 not loaded", x.at(box, 1), due[box]);
        }
    }

    private static void placesOfEachWagonAlone() {
        TrainLoads x = Trains.of(3, 11);
        Trains.addSizes(x, 1, 1, 1, 1, 1, 1);
        x.plan();
        for (int box = 0; box < 6; box++) {
            check.due("wagon of box " + box, x.at(box, 0), box / 2);
            check.due("place of box " + box, x.at(box, 1), box % 2);
        }
    }
}
