import java.util.Random;
import java.util.function.LongSupplier;

/** Runs of calls chosen at random, always the same ones: TrainLoads and the oracle must answer alike. */
public final class OracleTest {
    private static final int[] ODD = {-1, Integer.MIN_VALUE, Integer.MAX_VALUE, 0, 1, 2, 3, 4, 8, 9, 10, 31, 101};
    private static final long[] ODD_LONG = {-1, Long.MIN_VALUE, Long.MAX_VALUE, 1000001, 1000000001L, 1L << 32};
    private static final int SMALL_RUNS = 3000;
    private static final int LARGE_RUNS = 200;
    // What an object answers to later calls is free.
    private static final int MOST_CALLS = 512;
    private static final Check check = new Check();

    private final Random random;
    private final String name;
    private final TrainLoads real = new TrainLoads();
    private final Oracle oracle = new Oracle();
    // How many of a hundred numbers are odd ones.
    private final int odd;
    private int calls = 0;

    private OracleTest(int seed, int odd) {
        random = new Random(seed);
        name = "run " + seed + ": ";
        this.odd = odd;
    }

    public static void main(String[] args) {
        for (int seed = 0; seed < SMALL_RUNS; seed++) {
            new OracleTest(seed, seed % 3 * 5).wander(2 + seed % 5);
        }
        for (int seed = SMALL_RUNS; seed < SMALL_RUNS + LARGE_RUNS; seed++) {
            new OracleTest(seed, 0).fill();
        }
        check.end("OracleTest");
    }

    /** Any calls in any order, with boxes kept few so that the oracle ends soon. */
    private void wander(int mostBoxes) {
        for (int call = 0; call < 60; call++) {
            int kind = random.nextInt(10);
            if (kind < 2) {
                tellWagonOrPattern();
            } else if (kind < 4) {
                if (oracle.count(1) < mostBoxes) {
                    tellBox();
                }
            } else if (kind < 6) {
                tellRest();
            } else if (kind == 6) {
                same("plan", () -> real.plan(), () -> oracle.plan());
            } else {
                ask(around(8), around(4), around(14));
            }
        }
        askAll();
    }

    /** A whole train of eight boxes, planned under several rules. */
    private void fill() {
        for (int call = 0; call < 12; call++) {
            tellWagonOrPattern();
        }
        for (int box = 0; box < 9; box++) {
            tellBox();
        }
        for (int round = 0; round < 2; round++) {
            tellRest();
            tellRest();
            same("plan", () -> real.plan(), () -> oracle.plan());
            askAll();
        }
    }

    private void tellWagonOrPattern() {
        if (random.nextInt(4) == 0 || oracle.count(0) == 0) {
            int length = 1 + random.nextInt(30);
            int many = random.nextInt(3) == 0 ? length : Math.max(length, 20);
            int a = odd(many);
            long w = oddLong(random.nextInt(60));
            int axles = odd(random.nextInt(9));
            int gauge = odd(1 + random.nextInt(12));
            same("wagon " + a + " " + w + " " + axles + " " + gauge,
                () -> real.wagon(a, w, axles, gauge), () -> oracle.wagon(a, w, axles, gauge));
        }
        int wagon = odd(random.nextInt(3));
        int sizes = 0;
        int places = 1 + random.nextInt(random.nextInt(10) == 0 ? 5 : 4);
        for (int place = 0; place < places; place++) {
            int digit = random.nextInt(40) == 0 ? random.nextInt(10) : 1 + random.nextInt(3);
            sizes = sizes * 10 + (random.nextInt(3) == 0 ? 1 : digit);
        }
        int told = odd(sizes);
        same("pattern " + wagon + " " + told, () -> real.pattern(wagon, told), () -> oracle.pattern(wagon, told));
    }

    private void tellBox() {
        int size = odd(1 + random.nextInt(3));
        long weight = oddLong(random.nextInt(20));
        int height = odd(1 + random.nextInt(9));
        int danger = odd(random.nextInt(4));
        long booked = oddLong(random.nextInt(6));
        same("box " + size + " " + weight + " " + height + " " + danger + " " + booked,
            () -> real.box(size, weight, height, danger, booked),
            () -> oracle.box(size, weight, height, danger, booked));
    }

    private void tellRest() {
        int kind = random.nextInt(5);
        if (kind < 3) {
            int a = odd(1 + random.nextInt(3));
            int b = odd(1 + random.nextInt(3));
            int rule = odd(random.nextInt(3));
            same("rule " + a + " " + b + " " + rule,
                () -> real.rule(a, b, rule) ? 1 : 0, () -> oracle.rule(a, b, rule) ? 1 : 0);
        } else if (kind == 3) {
            long day = oddLong(random.nextInt(3) == 0 ? 1000000000L : 3 + random.nextInt(4));
            same("cut " + day, () -> real.cut(day) ? 1 : 0, () -> oracle.cut(day) ? 1 : 0);
        } else {
            int wagon = odd(random.nextInt(3));
            boolean is = random.nextInt(3) == 0;
            same("out " + wagon + " " + is, () -> real.out(wagon, is) ? 1 : 0, () -> oracle.out(wagon, is) ? 1 : 0);
        }
    }

    private void ask(int number, int what, int counted) {
        same("at " + number + " " + what, () -> real.at(number, what), () -> oracle.at(number, what));
        same("load " + number + " " + what, () -> real.load(number, what), () -> oracle.load(number, what));
        same("axle " + number + " " + what, () -> real.axle(number, what), () -> oracle.axle(number, what));
        same("standby " + number, () -> real.standby(number), () -> oracle.standby(number));
        same("refused " + number, () -> real.refused(number), () -> oracle.refused(number));
        same("together " + number + " " + what,
            () -> real.together(number, what) ? 1 : 0, () -> oracle.together(number, what) ? 1 : 0);
        same("count " + counted, () -> real.count(counted), () -> oracle.count(counted));
    }

    private void askAll() {
        for (int number = -1; number <= 8; number++) {
            askBox(number);
        }
        for (int number = -1; number <= 3; number++) {
            askWagon(number);
        }
        for (int what = -1; what <= 13; what++) {
            int counted = what;
            same("count " + what, () -> real.count(counted), () -> oracle.count(counted));
        }
    }

    private void askBox(int box) {
        same("standby " + box, () -> real.standby(box), () -> oracle.standby(box));
        same("refused " + box, () -> real.refused(box), () -> oracle.refused(box));
        for (int number = -1; number <= 2; number++) {
            int what = number;
            same("at " + box + " " + what, () -> real.at(box, what), () -> oracle.at(box, what));
        }
        for (int number = -1; number <= 8; number++) {
            int other = number;
            same("together " + box + " " + other,
                () -> real.together(box, other) ? 1 : 0, () -> oracle.together(box, other) ? 1 : 0);
        }
    }

    private void askWagon(int wagon) {
        for (int number = -1; number <= 4; number++) {
            int what = number;
            same("load " + wagon + " " + what, () -> real.load(wagon, what), () -> oracle.load(wagon, what));
        }
        for (int number = -1; number <= 2; number++) {
            int side = number;
            same("axle " + wagon + " " + side, () -> real.axle(wagon, side), () -> oracle.axle(wagon, side));
        }
    }

    private void same(String call, LongSupplier got, LongSupplier want) {
        if (calls < MOST_CALLS) {
            calls++;
            check.dueText(name + call, Check.answer(got), Check.answer(want));
        }
    }

    private int around(int bound) {
        return odd(random.nextInt(bound + 2) - 1);
    }

    private int odd(int number) {
        return random.nextInt(100) < odd ? ODD[random.nextInt(ODD.length)] : number;
    }

    private long oddLong(long number) {
        return random.nextInt(100) < odd ? ODD_LONG[random.nextInt(ODD_LONG.length)] : number;
    }
}
