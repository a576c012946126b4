import java.util.stream.IntStream;

/** Trains that several tests begin with. */
final class Trains {
    static final int LENGTH = 30;
    static final long WEIGHT = 1000000;
    static final int HEIGHT = 100;
    static final long LAST_DAY = 1000000000L;

    private Trains() {
    }

    /** So many wagons that take whatever their patterns let. */
    static TrainLoads of(int wagons, int... patterns) {
        TrainLoads x = new TrainLoads();
        for (int wagon = 0; wagon < wagons; wagon++) {
            x.wagon(LENGTH, WEIGHT, 1, HEIGHT);
            for (int sizes : patterns) {
                x.pattern(wagon, sizes);
            }
        }
        return x;
    }

    /** Boxes of these sizes that are light, low, harmless and booked on day 0. */
    static void addSizes(TrainLoads x, int... sizes) {
        for (int size : sizes) {
            x.box(size, 1, 1, 0, 0);
        }
    }

    /** Boxes of size 1, booked on these days. */
    static void addDays(TrainLoads x, long... days) {
        for (long day : days) {
            x.box(1, 1, 1, 0, day);
        }
    }

    /** Boxes of size 1 with these kinds of danger. */
    static void addDangers(TrainLoads x, int... dangers) {
        for (int danger : dangers) {
            x.box(1, 1, 1, danger, 0);
        }
    }

    /** Boxes of size 1 with these weights. */
    static void addWeights(TrainLoads x, long... weights) {
        for (long weight : weights) {
            x.box(1, weight, 1, 0, 0);
        }
    }

    /** Two wagons (the second one out), rules, a cut-off and boxes that the plan loads or not. */
    static TrainLoads mixed() {
        TrainLoads x = new TrainLoads();
        x.wagon(20, 50, 3, 10);
        x.pattern(0, 1);
        x.pattern(0, 211);
        x.wagon(12, 20, 0, 5);
        x.pattern(1, 12);
        x.box(1, 20, 4, 1, 5);
        x.box(1, 20, 4, 2, 4);
        x.box(2, 9, 9, 0, 6);
        x.box(1, 1, 4, 3, 7);
        x.rule(1, 2, 1);
        x.rule(3, 3, 2);
        x.cut(6);
        x.out(1, true);
        return x;
    }

    /** As many wagons, patterns and boxes as there may be. */
    static TrainLoads full() {
        TrainLoads x = of(3, 1, 12, 13, 1111);
        for (int box = 0; box < 8; box++) {
            x.box(1 + box % 3, 1, 1, box % 4, 8 - box);
        }
        x.rule(1, 1, 1);
        return x;
    }

    /** The length that a row of sizes needs. */
    static int lengthOf(String sizes) {
        int length = 0;
        for (char size : sizes.toCharArray()) {
            length += size == '1' ? 4 : size == '2' ? 8 : 9;
        }
        return length;
    }

    /** The sizes of a pattern, from the left. */
    static int[] sizesOf(int pattern) {
        return String.valueOf(pattern).chars().map(digit -> digit - '0').toArray();
    }

    /** Every row of 1 to 4 sizes that is not longer than so much. */
    static int[] patternsUpTo(int length) {
        return IntStream.rangeClosed(1, 3333)
            .filter(n -> String.valueOf(n).matches("[123]{1,4}") && lengthOf(String.valueOf(n)) <= length)
            .toArray();
    }
}
