/** Promises 13 to 15: what is asked without a plan too. Comments quote the sentence that a method tests. */
public final class AskingTest {
    private static final Class<IndexOutOfBoundsException> INDEX = IndexOutOfBoundsException.class;
    private static final Check check = new Check();

    public static void main(String[] args) {
        refused();
        together();
        count();
        check.end("AskingTest");
    }

    private static void refused() {
        refusedWithoutWagons();
        refusedByPattern();
        refusedByAllPatterns();
        refusedByGauge();
        refusedByWeight();
        refusedForTheLeastReason();
        refusedByTheGreatestWagon();
        refusedAlone();
        refusedCountsWagonsOut();
        refusedCountsNoCutOff();
        refusedOfNoBox();
    }

    /** Promise 13: "4 if there are no wagons". */
    private static void refusedWithoutWagons() {
        TrainLoads x = new TrainLoads();
        x.box(1, 0, 1, 0, 0);
        x.box(3, 1000000, 100, 3, Trains.LAST_DAY);
        check.due("refused: no wagons", x.refused(0), 4);
        check.due("refused: no wagons, the greatest box", x.refused(1), 4);
        x.wagon(1, 0, 0, 1);
        check.due("refused: a wagon, the shortest", x.refused(0), 1);
    }

    /** Promise 13: "1 no pattern with its size", "0 if it can". */
    private static void refusedByPattern() {
        for (int size = 1; size <= 3; size++) {
            TrainLoads x = Trains.of(1);
            Trains.addSizes(x, size);
            check.due("refused: no pattern, size " + size, x.refused(0), 1);
            for (int other = 1; other <= 3; other++) {
                if (other != size) {
                    x.pattern(0, other);
                }
            }
            check.due("refused: patterns of other sizes, size " + size, x.refused(0), 1);
            x.pattern(0, size == 2 ? 12 : 20 + size);
            check.due("refused: at last a pattern, size " + size, x.refused(0), 0);
        }
    }

    /** As many patterns as there may be, and the size in none of them, or in the last alone. */
    private static void refusedByAllPatterns() {
        TrainLoads x = Trains.of(2, 1, 2, 12, 21);
        Trains.addSizes(x, 3);
        check.due("refused: four patterns of other sizes", x.refused(0), 1);
        TrainLoads y = Trains.of(1, 1, 2, 12, 213);
        Trains.addSizes(y, 3);
        check.due("refused: the fourth pattern has it", y.refused(0), 0);
    }

    /** Promise 13: "2 the gauge". */
    private static void refusedByGauge() {
        for (int height = 2; height <= 100; height++) {
            TrainLoads x = new TrainLoads();
            x.wagon(30, 10, 1, height - 1);
            x.pattern(0, 1);
            x.box(1, 1, height, 0, 0);
            check.due("refused: one higher than the gauge, " + height, x.refused(0), 2);
            x.wagon(30, 10, 1, height);
            x.pattern(1, 1);
            check.due("refused: as high as a gauge, " + height, x.refused(0), 0);
        }
    }

    /** Promise 13: "3 the weight". */
    private static void refusedByWeight() {
        for (long weight : new long[] {1, 2, 999999, 1000000}) {
            TrainLoads x = new TrainLoads();
            x.wagon(30, weight - 1, 1, 10);
            x.pattern(0, 1);
            x.box(1, weight, 1, 0, 0);
            check.due("refused: one above the most, " + weight, x.refused(0), 3);
            x.wagon(30, weight, 1, 10);
            x.pattern(1, 1);
            check.due("refused: just the most, " + weight, x.refused(0), 0);
        }
        TrainLoads x = new TrainLoads();
        x.wagon(30, 0, 1, 10);
        x.pattern(0, 1);
        x.box(1, 0, 1, 0, 0);
        check.due("refused: no weight on a wagon for none", x.refused(0), 0);
    }

    /** Promise 13: "the least reason of the wagon". */
    private static void refusedForTheLeastReason() {
        TrainLoads x = new TrainLoads();
        x.wagon(30, 10, 1, 10);
        x.pattern(0, 2);
        x.box(1, 11, 11, 0, 0);
        x.box(1, 10, 11, 0, 0);
        x.box(1, 11, 10, 0, 0);
        x.box(2, 11, 11, 0, 0);
        x.box(2, 10, 11, 0, 0);
        x.box(2, 11, 10, 0, 0);
        x.box(2, 10, 10, 0, 0);
        int[] due = {1, 1, 1, 2, 2, 3, 0};
        for (int box = 0; box < due.length; box++) {
            check.due("refused: least reason, box " + box, x.refused(box), due[box]);
        }
    }

    /** Promise 13: "of the wagon by which it is greatest", over all reasons of three wagons. */
    private static void refusedByTheGreatestWagon() {
        for (int reasons = 0; reasons < 64; reasons++) {
            int[] reason = {reasons / 16, reasons / 4 % 4, reasons % 4};
            TrainLoads x = new TrainLoads();
            x.box(2, 5, 5, 0, 0);
            int greatest = 0;
            boolean can = false;
            for (int wagon = 0; wagon < 3; wagon++) {
                x.wagon(30, reason[wagon] == 3 ? 4 : 5, 1, reason[wagon] == 2 ? 4 : 5);
                x.pattern(wagon, reason[wagon] == 1 ? 1 : 2);
                greatest = Math.max(greatest, reason[wagon]);
                can |= reason[wagon] == 0;
                check.due("refused: by " + (wagon + 1) + " wagons of " + reasons, x.refused(0), can ? 0 : greatest);
            }
        }
    }

    /** Promise 13: "on any wagon alone": other boxes, their rules and their weights do not count. */
    private static void refusedAlone() {
        TrainLoads x = new TrainLoads();
        x.wagon(4, 10, 1, 10);
        x.pattern(0, 1);
        x.box(1, 10, 1, 1, 0);
        x.box(1, 10, 1, 1, 1);
        x.rule(1, 1, 2);
        x.plan();
        check.due("refused: the box that the plan leaves", x.at(1, 0), -1);
        check.due("refused: it could stand there alone", x.refused(1), 0);
    }

    /** Promise 13: "those that are out count". */
    private static void refusedCountsWagonsOut() {
        TrainLoads x = Trains.of(1, 1);
        Trains.addSizes(x, 1, 2);
        x.out(0, true);
        check.due("refused: it can on a wagon that is out", x.refused(0), 0);
        check.due("refused: the reason of a wagon that is out", x.refused(1), 1);
    }

    /** Promise 13: "the cut-off does not". */
    private static void refusedCountsNoCutOff() {
        TrainLoads x = Trains.of(1, 1);
        Trains.addDays(x, Trains.LAST_DAY);
        x.cut(0);
        check.due("refused: booked behind the cut-off", x.refused(0), 0);
        check.due("refused: though the plan leaves it", x.plan(), 0);
    }

    /** Promise 13: "IndexOutOfBoundsException if there is no such box". */
    private static void refusedOfNoBox() {
        for (int boxes = 0; boxes <= 8; boxes++) {
            TrainLoads x = new TrainLoads();
            Trains.addDays(x, new long[boxes]);
            for (int number = boxes; number <= 18; number++) {
                int box = number;
                check.dueThrow("refused: box " + box + " of " + boxes, () -> x.refused(box), INDEX);
            }
            for (int box : Far.INTS) {
                check.dueThrow("refused: box " + box + " of " + boxes, () -> x.refused(box), INDEX);
            }
            for (int box = 0; box < boxes; box++) {
                check.due("refused: box " + box + " of " + boxes, x.refused(box), 4);
            }
        }
    }

    private static void together() {
        togetherByRules();
        togetherOfOneBox();
        togetherByRulesAlone();
        togetherOfNoBoxes();
    }

    /** Promise 14: "Whether two boxes may stand on one wagon by RULES", over all kinds and rules. */
    private static void togetherByRules() {
        for (int a = 1; a <= 3; a++) {
            for (int b = 1; b <= 3; b++) {
                for (int rule = 0; rule <= 2; rule++) {
                    dueTogether(a, b, rule);
                }
            }
        }
    }

    private static void dueTogether(int a, int b, int rule) {
        TrainLoads x = new TrainLoads();
        Trains.addDangers(x, 0, 1, 2, 3, 3, 2, 1, 0);
        x.rule(a, b, rule);
        for (int c = 0; c < 8; c++) {
            for (int d = 0; d < 8; d++) {
                int first = Math.min(c, 7 - c);
                int second = Math.min(d, 7 - d);
                boolean held = rule > 0 && (first == a && second == b || first == b && second == a);
                check.due("together: " + first + " and " + second + " by rule " + rule + " of " + a + " and " + b,
                    x.together(c, d), !held);
            }
        }
    }

    /** The document does not set a box beside itself apart: its kind's rule with itself tells. */
    private static void togetherOfOneBox() {
        TrainLoads x = new TrainLoads();
        Trains.addDangers(x, 1, 2);
        x.rule(1, 1, 1);
        check.due("together: a box and itself, with a rule", x.together(0, 0), false);
        check.due("together: a box and itself, without", x.together(1, 1), true);
    }

    /** Promise 14: "by RULES": no pattern, weight, gauge, cut-off or wagon is asked. */
    private static void togetherByRulesAlone() {
        TrainLoads x = new TrainLoads();
        x.box(3, 1000000, 100, 1, Trains.LAST_DAY);
        x.box(3, 1000000, 100, 2, Trains.LAST_DAY);
        x.cut(0);
        check.due("together: without any wagon", x.together(0, 1), true);
        x.wagon(1, 0, 0, 1);
        x.out(0, true);
        check.due("together: with a wagon that takes neither", x.together(0, 1), true);
    }

    /** Promise 14: "IndexOutOfBoundsException if there are no such boxes". */
    private static void togetherOfNoBoxes() {
        for (int boxes = 0; boxes <= 8; boxes++) {
            TrainLoads x = new TrainLoads();
            Trains.addDays(x, new long[boxes]);
            for (int number = boxes; number <= 12; number++) {
                dueNotTogether(x, number);
            }
            for (int number : Far.INTS) {
                dueNotTogether(x, number);
            }
            if (boxes > 0) {
                check.due("together: first and last of " + boxes, x.together(0, boxes - 1), true);
                check.due("together: last and first of " + boxes, x.together(boxes - 1, 0), true);
            }
        }
    }

    private static void dueNotTogether(TrainLoads x, int wrong) {
        check.dueThrow("together: " + wrong + " and 0", () -> x.together(wrong, 0) ? 1 : 0, INDEX);
        check.dueThrow("together: 0 and " + wrong, () -> x.together(0, wrong) ? 1 : 0, INDEX);
        check.dueThrow("together: " + wrong + " twice", () -> x.together(wrong, wrong) ? 1 : 0, INDEX);
    }

    private static void count() {
        countOfWagonsAndBoxes();
        countOfPlan();
        countWithoutPlan();
        countOfPatterns();
        countOfNothingElse();
    }

    /** Promise 15: "what 0: wagons, 1: boxes", from none to as many as there may be. */
    private static void countOfWagonsAndBoxes() {
        TrainLoads x = new TrainLoads();
        for (int wagons = 0; wagons <= 3; wagons++) {
            check.due("count: wagons", x.count(0), wagons);
            check.due("count: no boxes", x.count(1), 0);
            Check.answer(() -> x.wagon(30, 1, 1, 1));
        }
        for (int boxes = 0; boxes <= 8; boxes++) {
            check.due("count: boxes", x.count(1), boxes);
            check.due("count: three wagons", x.count(0), 3);
            Check.answer(() -> x.box(1, 1, 1, 1, 1));
        }
        x.out(0, true);
        check.due("count: wagons, those out too", x.count(0), 3);
    }

    /** Promise 15: "2: boxes that the plan loads, 3: the length that it uses, 4: 1 if there is a plan, else 0". */
    private static void countOfPlan() {
        TrainLoads x = new TrainLoads();
        x.plan();
        dueCounts("nothing", x, 0, 0, 1);
        Trains.addSizes(x, 3, 1, 1, 2);
        x.plan();
        dueCounts("no wagons", x, 0, 0, 1);
        x.wagon(30, 10, 1, 1);
        x.pattern(0, 13);
        x.plan();
        dueCounts("one wagon", x, 2, 13, 1);
        x.wagon(30, 10, 1, 1);
        x.pattern(1, 21);
        x.plan();
        dueCounts("two wagons", x, 4, 25, 1);
        x.cut(5);
        dueCounts("void", x, -1, -1, 0);
        x.plan();
        dueCounts("planned again", x, 4, 25, 1);
    }

    /** Promise 15: "NONE .. of 2 and 3 without a plan". */
    private static void countWithoutPlan() {
        dueCounts("new", new TrainLoads(), -1, -1, 0);
        dueCounts("full, not planned", Trains.full(), -1, -1, 0);
    }

    private static void dueCounts(String what, TrainLoads x, int loaded, int length, int plan) {
        check.due("count of boxes loaded: " + what, x.count(2), loaded);
        check.due("count of length used: " + what, x.count(3), length);
        check.due("count of plans: " + what, x.count(4), plan);
    }

    /** Promise 15: "from 10 on patterns of wagon what - 10. NONE for another .. wagon". */
    private static void countOfPatterns() {
        TrainLoads x = new TrainLoads();
        for (int wagon = 0; wagon < 3; wagon++) {
            check.due("count: patterns of a wagon that is not there yet", x.count(10 + wagon), -1);
            x.wagon(30, 1, 1, 1);
            for (int patterns = 0; patterns < 4; patterns++) {
                check.due("count: patterns of wagon " + wagon, x.count(10 + wagon), patterns);
                x.pattern(wagon, 1);
            }
            check.due("count: all patterns of wagon " + wagon, x.count(10 + wagon), 4);
        }
        check.due("count: patterns of wagon 3", x.count(13), -1);
        check.due("count: patterns of wagon -1", x.count(9), -1);
    }

    /** Promise 15: "NONE for another what", though what - 10 wraps round for the least ones. */
    private static void countOfNothingElse() {
        TrainLoads[] trains = {new TrainLoads(), Trains.mixed(), Trains.full(), Trains.full()};
        trains[3].plan();
        for (TrainLoads x : trains) {
            for (int what = -40; what < 0; what++) {
                check.due("count: " + what, x.count(what), -1);
            }
            for (int what = 5; what < 10; what++) {
                check.due("count: " + what, x.count(what), -1);
            }
            for (int what = 13; what < 50; what++) {
                check.due("count: " + what, x.count(what), -1);
            }
            for (int what : Far.INTS) {
                check.due("count: " + what, x.count(what), -1);
            }
            for (int more = 0; more < 20; more++) {
                check.due("count: least and " + more, x.count(Integer.MIN_VALUE + more), -1);
                check.due("count: greatest less " + more, x.count(Integer.MAX_VALUE - more), -1);
            }
        }
    }
}
