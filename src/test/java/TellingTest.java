import java.util.function.IntConsumer;
import java.util.function.LongConsumer;
import java.util.function.LongFunction;
import java.util.function.LongSupplier;

/** Promises 1 to 7: what is told, and what can't be told. Comments quote the sentence that a method tests. */
public final class TellingTest {
    private static final Class<IllegalArgumentException> ARGUMENT = IllegalArgumentException.class;
    private static final Class<IllegalStateException> STATE = IllegalStateException.class;
    private static final Check check = new Check();

    public static void main(String[] args) {
        newObject();
        wagon();
        pattern();
        box();
        rule();
        cut();
        out();
        check.end("TellingTest");
    }

    private static void newObject() {
        newHasNoWagons();
        newHasNoBoxes();
        newHasNoPlan();
        newHasNoRules();
        newCutsOffNothing();
        newSharesNothing();
    }

    /** Promise 1: "No wagons". */
    private static void newHasNoWagons() {
        TrainLoads x = new TrainLoads();
        check.due("new: wagons", x.count(0), 0);
        check.due("new: patterns of wagon 0", x.count(10), -1);
        check.due("new: wagon 0 is not to be taken out", x.out(0, true), false);
        check.dueThrow("new: wagon 0 gets no pattern", () -> x.pattern(0, 1), ARGUMENT);
        check.due("new: the first wagon", x.wagon(1, 0, 0, 1), 0);
    }

    /** Promise 1: "No .. boxes". */
    private static void newHasNoBoxes() {
        TrainLoads x = new TrainLoads();
        check.due("new: boxes", x.count(1), 0);
        check.dueThrow("new: box 0 is not refused", () -> x.refused(0), IndexOutOfBoundsException.class);
        check.due("new: the first box", x.box(1, 0, 1, 0, 0), 0);
    }

    private static void newHasNoPlan() {
        TrainLoads x = new TrainLoads();
        check.due("new: plan", x.count(4), 0);
        check.due("new: boxes that the plan loads", x.count(2), -1);
        check.due("new: length that the plan uses", x.count(3), -1);
    }

    /** Promise 1: "No .. rules". */
    private static void newHasNoRules() {
        for (int a = 0; a <= 3; a++) {
            for (int b = 0; b <= 3; b++) {
                TrainLoads x = Trains.of(1, 11);
                Trains.addDangers(x, a, b);
                check.due("new: " + a + " and " + b + " on one wagon", x.plan(), 8);
                check.due("new: " + a + " and " + b + " together", x.together(0, 1), true);
            }
        }
    }

    /** Promise 1: "CUT-OFF 1000000000". */
    private static void newCutsOffNothing() {
        TrainLoads x = Trains.of(1, 11);
        Trains.addDays(x, Trains.LAST_DAY, 0);
        check.due("new: the last day is not behind the cut-off", x.plan(), 8);
    }

    private static void newSharesNothing() {
        Trains.full().cut(0);
        TrainLoads x = new TrainLoads();
        check.due("new after a full one: wagons, boxes", x.count(0) + x.count(1), 0);
        x.box(1, 1, 1, 1, 9);
        x.wagon(4, 1, 1, 1);
        check.due("new after a full one: patterns", x.count(10), 0);
        x.pattern(0, 1);
        check.due("new after a full one: cut-off", x.plan(), 4);
        check.due("new after a full one: rules", x.together(0, 0), true);
    }

    private static void wagon() {
        wagonNumbers();
        wagonLength();
        wagonWeight();
        wagonAxles();
        wagonGauge();
        wagonIsBare();
        wagonExceptionTold();
    }

    /** Promise 2: "One more wagon: its number"; "IllegalStateException if there are 3". */
    private static void wagonNumbers() {
        TrainLoads x = new TrainLoads();
        for (int wagon = 0; wagon < 3; wagon++) {
            check.due("wagon: wagons before", x.count(0), wagon);
            check.due("wagon: number", x.wagon(5, 5, 5, 5), wagon);
        }
        check.dueThrow("wagon: fourth", () -> x.wagon(5, 5, 5, 5), STATE);
        check.dueThrow("wagon: fourth, another one", () -> x.wagon(30, 1000000, 8, 100), STATE);
        x.out(0, true);
        check.dueThrow("wagon: fourth, with one out", () -> x.wagon(5, 5, 5, 5), STATE);
        check.due("wagon: three", x.count(0), 3);
    }

    /** Terms: "LENGTH (1 .. 30)". */
    private static void wagonLength() {
        dueInts("wagon: length ", 1, 30, n -> () -> new TrainLoads().wagon((int) n, 1, 1, 1));
    }

    /** Terms: "most WEIGHT (0 .. 1000000)". */
    private static void wagonWeight() {
        dueLongs("wagon: weight ", 1000000, n -> () -> new TrainLoads().wagon(1, n, 1, 1));
    }

    /** Terms: "AXLES (0 .. 8)". */
    private static void wagonAxles() {
        dueInts("wagon: axles ", 0, 8, n -> () -> new TrainLoads().wagon(1, 1, (int) n, 1));
    }

    /** Terms: "GAUGE (1 .. 100)". */
    private static void wagonGauge() {
        dueInts("wagon: gauge ", 1, 100, n -> () -> new TrainLoads().wagon(1, 1, 1, (int) n));
    }

    private static void wagonIsBare() {
        TrainLoads x = new TrainLoads();
        x.wagon(30, 1, 1, 1);
        check.due("wagon: a new one has no patterns", x.count(10), 0);
        check.due("wagon: a new one is not out", x.out(0, false), false);
        x.plan();
        check.due("wagon: a new one is empty", x.load(0, 1), 0);
    }

    /** "Of several exceptions the one told first is thrown". */
    private static void wagonExceptionTold() {
        TrainLoads x = Trains.of(3);
        check.dueThrow("wagon: fourth, length 0", () -> x.wagon(0, 1, 1, 1), ARGUMENT);
        check.dueThrow("wagon: fourth, length 31", () -> x.wagon(31, 1, 1, 1), ARGUMENT);
        check.dueThrow("wagon: fourth, weight -1", () -> x.wagon(1, -1, 1, 1), ARGUMENT);
        check.dueThrow("wagon: fourth, weight 1000001", () -> x.wagon(1, 1000001, 1, 1), ARGUMENT);
        check.dueThrow("wagon: fourth, axles -1", () -> x.wagon(1, 1, -1, 1), ARGUMENT);
        check.dueThrow("wagon: fourth, axles 9", () -> x.wagon(1, 1, 9, 1), ARGUMENT);
        check.dueThrow("wagon: fourth, gauge 0", () -> x.wagon(1, 1, 1, 0), ARGUMENT);
        check.dueThrow("wagon: fourth, gauge 101", () -> x.wagon(1, 1, 1, 101), ARGUMENT);
    }

    private static void pattern() {
        patternNumbers();
        patternOfNoWagon();
        patternDigits();
        patternFarNumbers();
        patternLength();
        patternOfWagonOut();
        patternExceptionTold();
    }

    /** Promise 3: "One more pattern of a wagon: its number"; "IllegalStateException if there are 4". */
    private static void patternNumbers() {
        TrainLoads x = Trains.of(3);
        for (int wagon = 2; wagon >= 0; wagon--) {
            int number = wagon;
            for (int pattern = 0; pattern < 4; pattern++) {
                check.due("pattern: patterns before", x.count(10 + wagon), pattern);
                check.due("pattern: number", x.pattern(wagon, 1), pattern);
            }
            check.dueThrow("pattern: fifth of wagon " + wagon, () -> x.pattern(number, 1), STATE);
            check.dueThrow("pattern: fifth, another one", () -> x.pattern(number, 1233), STATE);
            check.due("pattern: four of wagon " + wagon, x.count(10 + wagon), 4);
        }
    }

    /** Promise 3: "IllegalArgumentException if there is no such wagon". */
    private static void patternOfNoWagon() {
        for (int wagons = 0; wagons <= 3; wagons++) {
            TrainLoads x = Trains.of(wagons);
            dueNoWagon(wagons, wagon ->
                check.dueThrow("pattern: of wagon " + wagon, () -> x.pattern(wagon, 1), ARGUMENT));
            for (int wagon = 0; wagon < wagons; wagon++) {
                check.due("pattern: of wagon " + wagon, x.pattern(wagon, 1), 0);
            }
        }
    }

    /** Promise 3: "a digit is not 1 .. 3, there are not 1 to 4, or they are too long", over all short numbers. */
    private static void patternDigits() {
        for (int n = -4000; n <= 40000; n++) {
            int sizes = n;
            TrainLoads x = new TrainLoads();
            x.wagon(30, 1, 1, 1);
            String digits = String.valueOf(n);
            boolean mayBe = digits.matches("[123]{1,4}") && Trains.lengthOf(digits) <= 30;
            check.dueText("pattern: " + n, Check.answer(() -> x.pattern(0, sizes)),
                mayBe ? "0" : "IllegalArgumentException");
        }
    }

    /** Promise 3: "there are not 1 to 4", over numbers whose last digits would be a pattern. */
    private static void patternFarNumbers() {
        TrainLoads x = Trains.of(1);
        int[] far = {11111, 111111, 1111111, 11111111, 111111111, 1111111111, 2111111111, 10001, 100001111, 1000000001,
            2000000001, 65537, 65536 + 11, -1, -11, -111, -1111, -11111, 1 << 30, 1 << 31};
        for (int sizes : far) {
            check.dueThrow("pattern: " + sizes, () -> x.pattern(0, sizes), ARGUMENT);
        }
        for (int sizes : Far.INTS) {
            check.dueThrow("pattern: " + sizes, () -> x.pattern(0, sizes), ARGUMENT);
        }
    }

    /** Terms: "together not more than the wagon's LENGTH", over all rows of sizes and all lengths. */
    private static void patternLength() {
        for (int sizes : Trains.patternsUpTo(36)) {
            int needed = Trains.lengthOf(String.valueOf(sizes));
            for (int length = 1; length <= 30; length++) {
                TrainLoads x = new TrainLoads();
                x.wagon(length, 1, 1, 1);
                check.dueText("pattern: " + sizes + " on a wagon of " + length, Check.answer(() -> x.pattern(0, sizes)),
                    needed <= length ? "0" : "IllegalArgumentException");
            }
        }
    }

    private static void patternOfWagonOut() {
        TrainLoads x = Trains.of(1);
        x.out(0, true);
        check.due("pattern: of a wagon that is out", x.pattern(0, 1), 0);
    }

    /** "Of several exceptions the one told first is thrown". */
    private static void patternExceptionTold() {
        TrainLoads x = new TrainLoads();
        x.wagon(8, 1, 1, 1);
        for (int pattern = 0; pattern < 4; pattern++) {
            x.pattern(0, 1);
        }
        check.dueThrow("pattern: fifth, no such wagon", () -> x.pattern(1, 1), ARGUMENT);
        check.dueThrow("pattern: fifth, digit 0", () -> x.pattern(0, 10), ARGUMENT);
        check.dueThrow("pattern: fifth, digit 4", () -> x.pattern(0, 4), ARGUMENT);
        check.dueThrow("pattern: fifth, no digits", () -> x.pattern(0, 0), ARGUMENT);
        check.dueThrow("pattern: fifth, five digits", () -> x.pattern(0, 11111), ARGUMENT);
        check.dueThrow("pattern: fifth, too long", () -> x.pattern(0, 3), ARGUMENT);
        check.dueThrow("pattern: fifth", () -> x.pattern(0, 2), STATE);
    }

    private static void box() {
        boxNumbers();
        boxSize();
        boxWeight();
        boxHeight();
        boxDanger();
        boxBooked();
        boxExceptionTold();
    }

    /** Promise 4: "One more box: its number"; "IllegalStateException if there are 8". */
    private static void boxNumbers() {
        TrainLoads x = new TrainLoads();
        for (int box = 0; box < 8; box++) {
            check.due("box: boxes before", x.count(1), box);
            check.due("box: number", x.box(2, 5, 5, 1, 5), box);
        }
        check.dueThrow("box: ninth", () -> x.box(2, 5, 5, 1, 5), STATE);
        check.dueThrow("box: ninth, another one", () -> x.box(3, 1000000, 100, 3, Trains.LAST_DAY), STATE);
        check.due("box: eight", x.count(1), 8);
    }

    /** Terms: "SIZE (1 .. 3)". */
    private static void boxSize() {
        dueInts("box: size ", 1, 3, n -> () -> new TrainLoads().box((int) n, 1, 1, 1, 1));
    }

    /** Terms: "WEIGHT (0 .. 1000000)". */
    private static void boxWeight() {
        dueLongs("box: weight ", 1000000, n -> () -> new TrainLoads().box(1, n, 1, 1, 1));
    }

    /** Terms: "HEIGHT (1 .. 100)". */
    private static void boxHeight() {
        dueInts("box: height ", 1, 100, n -> () -> new TrainLoads().box(1, 1, (int) n, 1, 1));
    }

    /** Terms: "DANGER (0 none, 1 .. 3)". */
    private static void boxDanger() {
        dueInts("box: danger ", 0, 3, n -> () -> new TrainLoads().box(1, 1, 1, (int) n, 1));
    }

    /** Terms: "BOOKED (a day, 0 .. 1000000000)". */
    private static void boxBooked() {
        dueLongs("box: booked ", 1000000000, n -> () -> new TrainLoads().box(1, 1, 1, 1, n));
    }

    /** "Of several exceptions the one told first is thrown". */
    private static void boxExceptionTold() {
        TrainLoads x = Trains.full();
        check.dueThrow("box: ninth, size 0", () -> x.box(0, 1, 1, 1, 1), ARGUMENT);
        check.dueThrow("box: ninth, size 4", () -> x.box(4, 1, 1, 1, 1), ARGUMENT);
        check.dueThrow("box: ninth, weight -1", () -> x.box(1, -1, 1, 1, 1), ARGUMENT);
        check.dueThrow("box: ninth, weight 1000001", () -> x.box(1, 1000001, 1, 1, 1), ARGUMENT);
        check.dueThrow("box: ninth, height 0", () -> x.box(1, 1, 0, 1, 1), ARGUMENT);
        check.dueThrow("box: ninth, height 101", () -> x.box(1, 1, 101, 1, 1), ARGUMENT);
        check.dueThrow("box: ninth, danger -1", () -> x.box(1, 1, 1, -1, 1), ARGUMENT);
        check.dueThrow("box: ninth, danger 4", () -> x.box(1, 1, 1, 4, 1), ARGUMENT);
        check.dueThrow("box: ninth, booked -1", () -> x.box(1, 1, 1, 1, -1), ARGUMENT);
        check.dueThrow("box: ninth, booked 1000000001", () -> x.box(1, 1, 1, 1, 1000000001L), ARGUMENT);
    }

    private static void rule() {
        ruleNumbers();
        ruleFarNumbers();
        ruleHoldsBothWays();
        ruleTakesTheLastWord();
        ruleOfOnePairAlone();
    }

    /** Promise 5: "Two kinds of DANGER (1 .. 3) have a RULE (1, 2), or none (0): true; false if they can't be". */
    private static void ruleNumbers() {
        for (int a = -2; a <= 5; a++) {
            for (int b = -2; b <= 5; b++) {
                TrainLoads x = new TrainLoads();
                for (int rule = -2; rule <= 4; rule++) {
                    boolean mayBe = 1 <= a && a <= 3 && 1 <= b && b <= 3 && 0 <= rule && rule <= 2;
                    check.due("rule " + a + " " + b + " " + rule, x.rule(a, b, rule), mayBe);
                }
            }
        }
    }

    private static void ruleFarNumbers() {
        TrainLoads x = new TrainLoads();
        for (int far : Far.INTS) {
            check.due("rule: " + far + " with 1", x.rule(far, 1, 1), false);
            check.due("rule: 1 with " + far, x.rule(1, far, 1), false);
            check.due("rule: " + far + " with itself", x.rule(far, far, 1), false);
            check.due("rule: " + far, x.rule(1, 1, far), false);
        }
    }

    private static void ruleHoldsBothWays() {
        for (int a = 1; a <= 3; a++) {
            for (int b = 1; b <= 3; b++) {
                for (int rule = 1; rule <= 2; rule++) {
                    TrainLoads x = new TrainLoads();
                    Trains.addDangers(x, a, b);
                    x.rule(a, b, rule);
                    check.due("rule: " + a + " with " + b, x.together(0, 1), false);
                    check.due("rule: " + b + " with " + a, x.together(1, 0), false);
                }
            }
        }
    }

    private static void ruleTakesTheLastWord() {
        TrainLoads x = Trains.of(2, 1);
        Trains.addDangers(x, 1, 3);
        check.due("rule: none where none was", x.rule(3, 1, 0), true);
        check.due("rule: none: length", x.plan(), 8);
        check.due("rule: first 2", x.rule(3, 1, 2), true);
        check.due("rule: 2: length", x.plan(), 4);
        check.due("rule: the same again", x.rule(3, 1, 2), true);
        check.due("rule: 2 again: length", x.plan(), 4);
        check.due("rule: then 1, told the other way round", x.rule(1, 3, 1), true);
        check.due("rule: 1: length", x.plan(), 8);
        check.due("rule: 1: not together", x.together(0, 1), false);
        check.due("rule: then 2", x.rule(1, 3, 2), true);
        check.due("rule: 2 after 1: length", x.plan(), 4);
        check.due("rule: then none, told the other way round", x.rule(3, 1, 0), true);
        check.due("rule: none after 2: length", x.plan(), 8);
        check.due("rule: none after 2: together", x.together(0, 1) && x.together(1, 0), true);
    }

    private static void ruleOfOnePairAlone() {
        for (int a = 1; a <= 3; a++) {
            for (int b = a; b <= 3; b++) {
                TrainLoads x = new TrainLoads();
                Trains.addDangers(x, 0, 1, 2, 3);
                x.rule(a, b, 2);
                for (int c = 0; c <= 3; c++) {
                    for (int d = c; d <= 3; d++) {
                        check.due("rule of " + a + " and " + b + ": " + c + " and " + d,
                            x.together(c, d), c != a || d != b);
                    }
                }
            }
        }
    }

    private static void cut() {
        cutNumbers();
        cutLetsTheDayItself();
        cutTakesTheLastWord();
    }

    /** Promise 6: "true; false if it is not 0 .. 1000000000". */
    private static void cutNumbers() {
        dueDays(true, 0, 1, 2, 1000000, 999999999, 1000000000);
        dueDays(false, -1, -2, 1000000001L, 1000000002L, Integer.MAX_VALUE, Integer.MIN_VALUE);
        dueDays(false, Far.LONGS);
    }

    private static void dueDays(boolean due, long... days) {
        for (long day : days) {
            check.due("cut: " + day, new TrainLoads().cut(day), due);
        }
    }

    /** Terms: "no box is loaded that is booked behind the CUT-OFF". */
    private static void cutLetsTheDayItself() {
        for (long day : new long[] {0, 1, 500, 999999999}) {
            TrainLoads x = Trains.of(1, 111);
            Trains.addDays(x, day, day + 1, Trains.LAST_DAY);
            x.cut(day);
            check.due("cut at " + day + ": length", x.plan(), 4);
            check.due("cut at " + day + ": booked on that day", x.at(0, 0), 0);
            check.due("cut at " + day + ": booked on the next", x.at(1, 0), -1);
            x.cut(day + 1);
            x.plan();
            check.due("cut at " + (day + 1) + ": booked on that day", x.at(1, 0), 0);
        }
    }

    private static void cutTakesTheLastWord() {
        TrainLoads x = Trains.of(1, 11);
        Trains.addDays(x, 0, Trains.LAST_DAY);
        x.cut(0);
        check.due("cut: day 0", x.plan(), 4);
        x.cut(0);
        check.due("cut: day 0 again", x.plan(), 4);
        x.cut(Trains.LAST_DAY);
        check.due("cut: the last day", x.plan(), 8);
        x.cut(999999999);
        check.due("cut: the day before", x.plan(), 4);
    }

    private static void out() {
        outOfNoWagon();
        outIfItIsSo();
        outOfOneWagonAlone();
    }

    /** Promise 7: "false if there is none such". */
    private static void outOfNoWagon() {
        for (int wagons = 0; wagons <= 3; wagons++) {
            TrainLoads x = Trains.of(wagons);
            dueNoWagon(wagons, wagon -> {
                check.due("out: wagon " + wagon + ", out", x.out(wagon, true), false);
                check.due("out: wagon " + wagon + ", in", x.out(wagon, false), false);
            });
            for (int wagon = 0; wagon < wagons; wagon++) {
                check.due("out: wagon " + wagon, x.out(wagon, true), true);
            }
        }
    }

    /** Promise 7: "false if .. it is so". */
    private static void outIfItIsSo() {
        TrainLoads x = Trains.of(1);
        check.due("out: in as it is", x.out(0, false), false);
        check.due("out: out", x.out(0, true), true);
        check.due("out: out as it is", x.out(0, true), false);
        check.due("out: in", x.out(0, false), true);
        check.due("out: in as it is again", x.out(0, false), false);
        check.due("out: out again", x.out(0, true), true);
    }

    /** Promise 7: "A wagon is OUT, or not any more". */
    private static void outOfOneWagonAlone() {
        for (int wagon = 0; wagon < 3; wagon++) {
            TrainLoads x = Trains.of(3, 1);
            Trains.addSizes(x, 1, 1, 1);
            x.out(wagon, true);
            check.due("out: length without " + wagon, x.plan(), 8);
            for (int other = 0; other < 3; other++) {
                check.due("out: boxes on " + other, x.load(other, 1), other == wagon ? 0 : 1);
            }
            x.out(wagon, false);
            check.due("out: length with " + wagon + " again", x.plan(), 12);
        }
    }

    /** Asks with numbers of which there are no wagons if there are so many. */
    private static void dueNoWagon(int wagons, IntConsumer asked) {
        for (int wagon = wagons; wagon <= 13; wagon++) {
            asked.accept(wagon);
        }
        for (int wagon : Far.INTS) {
            asked.accept(wagon);
        }
    }

    /** A call on a new object answers 0 within the range, and refuses all else. */
    private static void dueInts(String what, int least, int most, LongFunction<LongSupplier> call) {
        LongConsumer due = n -> check.dueText(what + n, Check.answer(call.apply(n)),
            least <= n && n <= most ? "0" : "IllegalArgumentException");
        for (int n = -300; n <= 300; n++) {
            due.accept(n);
        }
        for (int n : Far.INTS) {
            due.accept(n);
        }
    }

    /** A call on a new object answers 0 from 0 to the most, and refuses all else. */
    private static void dueLongs(String what, long most, LongFunction<LongSupplier> call) {
        for (long n : new long[] {0, 1, 2, most / 2, most - 1, most}) {
            check.dueText(what + n, Check.answer(call.apply(n)), "0");
        }
        for (long n : new long[] {most + 1, most + 2, 10 * most, Integer.MAX_VALUE, Integer.MIN_VALUE}) {
            check.dueThrow(what + n, call.apply(n), ARGUMENT);
        }
        for (long n : Far.LONGS) {
            check.dueThrow(what + n, call.apply(n), ARGUMENT);
        }
    }
}
