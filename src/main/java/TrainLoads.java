import java.util.Arrays;
import java.util.NoSuchElementException;

/** Loads a train with boxes; the document's promises are told in ../shared/DOC.md. */
public final class TrainLoads {
    public static final int NONE = -1;

    private static final int MOST_WAGONS = 3;
    private static final int MOST_PATTERNS = 4;
    private static final int MOST_PLACES = 4;
    private static final int MOST_BOXES = 8;
    private static final int MOST_LENGTH = 30;
    private static final int MOST_AXLES = 8;
    private static final int MOST_HEIGHT = 100;
    private static final int SIZES = 3;
    private static final int DANGERS = 3;
    private static final int ONE_WAGON = 1;
    private static final int NEIGHBOURS = 2;
    private static final int FIRST_OF_PATTERNS = 10;
    private static final long MOST_WEIGHT = 1000000L;
    private static final long LAST_DAY = 1000000000L;

    private final Train train;
    private final Planner planner;
    private boolean planned;

    public TrainLoads() {
        train = new Train();
        planner = new Planner(train);
        planned = false;
    }

    public int wagon(int length, long weight, int axles, int gauge)
            throws IllegalArgumentException, IllegalStateException {
        if (!isBetween(length, 1, MOST_LENGTH) || !isBetween(weight, 0, MOST_WEIGHT)
                || !isBetween(axles, 0, MOST_AXLES) || !isBetween(gauge, 1, MOST_HEIGHT)) {
            throw new IllegalArgumentException("a wagon can't have these numbers");
        }
        if (train.wagonCount >= MOST_WAGONS) {
            throw new IllegalStateException("there are 3 wagons already");
        }
        planned = false;
        return train.addWagon(length, weight, axles, gauge);
    }

    public int pattern(int wagon, int sizes) throws IllegalArgumentException, IllegalStateException {
        if (!train.hasWagon(wagon)) {
            throw new IllegalArgumentException("there is no such wagon");
        }
        Wagon chosen = train.wagons[wagon];
        if (!isRowOfSizes(sizes) || lengthOfRow(sizes) > chosen.length) {
            throw new IllegalArgumentException("the wagon can't have this pattern");
        }
        if (chosen.patternCount >= MOST_PATTERNS) {
            throw new IllegalStateException("the wagon has 4 patterns already");
        }
        planned = false;
        return chosen.addPattern(sizes);
    }

    public int box(int size, long weight, int height, int danger, long booked)
            throws IllegalArgumentException, IllegalStateException {
        if (!isBetween(size, 1, SIZES) || !isBetween(weight, 0, MOST_WEIGHT)
                || !isBetween(height, 1, MOST_HEIGHT) || !isBetween(danger, 0, DANGERS)
                || !isBetween(booked, 0, LAST_DAY)) {
            throw new IllegalArgumentException("a box can't have these numbers");
        }
        if (train.boxCount >= MOST_BOXES) {
            throw new IllegalStateException("there are 8 boxes already");
        }
        planned = false;
        return train.addBox(size, weight, height, danger, booked);
    }

    public boolean rule(int a, int b, int rule) {
        if (!isBetween(a, 1, DANGERS) || !isBetween(b, 1, DANGERS) || !isBetween(rule, 0, NEIGHBOURS)) {
            return false;
        }
        planned = false;
        train.rules[a][b] = rule;
        train.rules[b][a] = rule;
        return true;
    }

    public boolean cut(long day) {
        if (!isBetween(day, 0, LAST_DAY)) {
            return false;
        }
        planned = false;
        train.cutOff = day;
        return true;
    }

    public boolean out(int wagon, boolean is) {
        if (!train.hasWagon(wagon) || train.wagons[wagon].isOut == is) {
            return false;
        }
        planned = false;
        train.wagons[wagon].isOut = is;
        return true;
    }

    public int plan() {
        // A plan that still stands would come out the same again.
        if (!planned) {
            planner.makePlan();
            planned = true;
        }
        return planner.lengthUsed();
    }

    public int at(int box, int what) throws IndexOutOfBoundsException, NoSuchElementException {
        if (!train.hasBox(box) || !isBetween(what, 0, 1)) {
            throw new IndexOutOfBoundsException("there is no such box or what");
        }
        needPlan();
        return what == 0 ? planner.wagonOf(box) : planner.placeOf(box);
    }

    public long load(int wagon, int what) throws IndexOutOfBoundsException, NoSuchElementException {
        if (!train.hasWagon(wagon) || !isBetween(what, 0, 3)) {
            throw new IndexOutOfBoundsException("there is no such wagon or what");
        }
        needPlan();
        Load load = planner.loads[wagon];
        switch (what) {
            case 0:
                return planner.patternOf(wagon);
            case 1:
                return load.boxCount;
            case 2:
                return load.length;
            default:
                return load.weight;
        }
    }

    public long axle(int wagon, int side)
            throws IndexOutOfBoundsException, NoSuchElementException, ArithmeticException {
        if (!train.hasWagon(wagon) || !isBetween(side, 0, 1)) {
            throw new IndexOutOfBoundsException("there is no such wagon or side");
        }
        needPlan();
        int axles = train.wagons[wagon].axles;
        if (axles == 0) {
            throw new ArithmeticException("the wagon has no axles");
        }
        long weight = planner.loads[wagon].weight;
        return side == 0 ? weight / axles : weight % axles;
    }

    public int standby(int i) throws NoSuchElementException {
        needPlan();
        return planner.leftBehind(i);
    }

    public int refused(int box) throws IndexOutOfBoundsException {
        if (!train.hasBox(box)) {
            throw new IndexOutOfBoundsException("there is no such box");
        }
        return train.reasonAgainst(train.boxes[box]);
    }

    public boolean together(int a, int b) throws IndexOutOfBoundsException {
        if (!train.hasBox(a) || !train.hasBox(b)) {
            throw new IndexOutOfBoundsException("there are no such boxes");
        }
        return train.rules[train.boxes[a].danger][train.boxes[b].danger] < ONE_WAGON;
    }

    public int count(int what) {
        switch (what) {
            case 0:
                return train.wagonCount;
            case 1:
                return train.boxCount;
            case 2:
                return planned ? planner.boxesLoaded() : NONE;
            case 3:
                return planned ? planner.lengthUsed() : NONE;
            case 4:
                return planned ? 1 : 0;
            default:
                return patternsOf(what);
        }
    }

    private int patternsOf(int what) {
        int wagon = what - FIRST_OF_PATTERNS;
        return train.hasWagon(wagon) ? train.wagons[wagon].patternCount : NONE;
    }

    private void needPlan() {
        if (!planned) {
            throw new NoSuchElementException("there is no plan");
        }
    }

    private static boolean isBetween(long number, long least, long most) {
        return least <= number && number <= most;
    }

    private static int lengthOfSize(int size) {
        switch (size) {
            case 1:
                return 4;
            case 2:
                return 8;
            case 3:
                return 9;
            default:
                return 0;
        }
    }

    private static boolean isRowOfSizes(int sizes) {
        int rest = sizes;
        for (int place = 0; place < MOST_PLACES && rest > 0; place++) {
            if (!isBetween(rest % 10, 1, SIZES)) {
                return false;
            }
            rest /= 10;
        }
        return sizes > 0 && rest == 0;
    }

    private static int lengthOfRow(int sizes) {
        int length = 0;
        int rest = sizes;
        for (int place = 0; place < MOST_PLACES && rest > 0; place++) {
            length += lengthOfSize(rest % 10);
            rest /= 10;
        }
        return length;
    }

    /** A row of places on a wagon. */
    private static final class Pattern {
        private final int[] sizeOfPlace = new int[MOST_PLACES];
        private final int[] placesOfSize = new int[SIZES + 1];
        private int placeCount = 0;

        void addPlaces(int sizes) {
            for (int unit = 1000; unit > 0; unit /= 10) {
                int size = sizes / unit % 10;
                if (isBetween(size, 1, SIZES) && placeCount < MOST_PLACES) {
                    sizeOfPlace[placeCount] = size;
                    placesOfSize[size]++;
                    placeCount++;
                }
            }
        }

        /** Whether there are places for the boxes of a load and for one more of the size oneMore (0: no more). */
        boolean holds(Load load, int oneMore) {
            for (int size = 1; size <= SIZES; size++) {
                int needed = load.boxesOfSize[size] + (size == oneMore ? 1 : 0);
                if (needed > placesOfSize[size]) {
                    return false;
                }
            }
            return true;
        }

        /** The place of a size that has so many places of it on its left, or NONE. */
        int placeBehind(int size, int before) {
            int seen = 0;
            for (int place = 0; place < placeCount; place++) {
                if (sizeOfPlace[place] == size) {
                    if (seen == before) {
                        return place;
                    }
                    seen++;
                }
            }
            return NONE;
        }
    }

    /** A wagon as it was told. */
    private static final class Wagon {
        private final Pattern[] patterns = new Pattern[MOST_PATTERNS];
        private int patternCount = 0;
        private int length = 0;
        private long mostWeight = 0;
        private int axles = 0;
        private int gauge = 0;
        private boolean isOut = false;

        Wagon() {
            for (int pattern = 0; pattern < MOST_PATTERNS; pattern++) {
                patterns[pattern] = new Pattern();
            }
        }

        int addPattern(int sizes) {
            if (patternCount >= MOST_PATTERNS) {
                return NONE;
            }
            patterns[patternCount].addPlaces(sizes);
            patternCount++;
            return patternCount - 1;
        }

        boolean hasPlaceFor(int size) {
            for (int pattern = 0; pattern < patternCount; pattern++) {
                if (patterns[pattern].placesOfSize[size] > 0) {
                    return true;
                }
            }
            return false;
        }

        /** The least pattern that holds a load and one more box of the size oneMore (0: no more), or NONE. */
        int leastPattern(Load load, int oneMore) {
            for (int pattern = 0; pattern < patternCount; pattern++) {
                if (patterns[pattern].holds(load, oneMore)) {
                    return pattern;
                }
            }
            return NONE;
        }

        /** The least reason why a box can't stand here alone, or 0. */
        int reasonAgainst(Box box) {
            if (!hasPlaceFor(box.size)) {
                return 1;
            }
            if (box.height > gauge) {
                return 2;
            }
            return box.weight > mostWeight ? 3 : 0;
        }
    }

    /** A box as it was told. */
    private static final class Box {
        private int size = 0;
        private long weight = 0;
        private int height = 0;
        private int danger = 0;
        private long booked = 0;
    }

    /** All that was told: wagons, boxes, rules and the cut-off. */
    private static final class Train {
        private final Wagon[] wagons = new Wagon[MOST_WAGONS];
        private int wagonCount = 0;
        private final Box[] boxes = new Box[MOST_BOXES];
        private int boxCount = 0;
        // Kind 0 stands here too, so that boxes without danger need no test; it never gets a rule.
        private final int[][] rules = new int[DANGERS + 1][DANGERS + 1];
        private long cutOff = LAST_DAY;

        Train() {
            for (int wagon = 0; wagon < MOST_WAGONS; wagon++) {
                wagons[wagon] = new Wagon();
            }
            for (int box = 0; box < MOST_BOXES; box++) {
                boxes[box] = new Box();
            }
        }

        boolean hasWagon(int wagon) {
            return 0 <= wagon && wagon < wagonCount;
        }

        boolean hasBox(int box) {
            return 0 <= box && box < boxCount;
        }

        int addWagon(int length, long weight, int axles, int gauge) {
            if (wagonCount >= MOST_WAGONS) {
                return NONE;
            }
            Wagon added = wagons[wagonCount];
            added.length = length;
            added.mostWeight = weight;
            added.axles = axles;
            added.gauge = gauge;
            wagonCount++;
            return wagonCount - 1;
        }

        int addBox(int size, long weight, int height, int danger, long booked) {
            if (boxCount >= MOST_BOXES) {
                return NONE;
            }
            Box added = boxes[boxCount];
            added.size = size;
            added.weight = weight;
            added.height = height;
            added.danger = danger;
            added.booked = booked;
            boxCount++;
            return boxCount - 1;
        }

        /** How many boxes stand before this one in the order of booking. */
        int rankOf(int box) {
            int rank = 0;
            for (int other = 0; other < boxCount; other++) {
                long lead = boxes[box].booked - boxes[other].booked;
                if (lead > 0 || lead == 0 && other < box) {
                    rank++;
                }
            }
            return rank;
        }

        int reasonAgainst(Box box) {
            int greatest = wagonCount == 0 ? 4 : 0;
            for (int wagon = 0; wagon < wagonCount; wagon++) {
                int reason = wagons[wagon].reasonAgainst(box);
                if (reason == 0) {
                    return 0;
                }
                greatest = Math.max(greatest, reason);
            }
            return greatest;
        }
    }

    /** What stands on one wagon in a loading. */
    private static final class Load {
        private final int[] boxesOfSize = new int[SIZES + 1];
        private final int[] boxesOfDanger = new int[DANGERS + 1];
        private int boxCount = 0;
        private int length = 0;
        private long weight = 0;

        void clear() {
            Arrays.fill(boxesOfSize, 0);
            Arrays.fill(boxesOfDanger, 0);
            boxCount = 0;
            length = 0;
            weight = 0;
        }

        void putOn(Box box) {
            change(box, 1);
        }

        void takeOff(Box box) {
            change(box, -1);
        }

        private void change(Box box, int by) {
            boxesOfSize[box.size] += by;
            boxesOfDanger[box.danger] += by;
            boxCount += by;
            length += by * lengthOfSize(box.size);
            weight += by * box.weight;
        }
    }

    /** Finds the plan and keeps it. */
    private static final class Planner {
        // All boxes' bits of booking together stay below this, so a length always outweighs them.
        private static final int LENGTH_UNIT = 1 << MOST_BOXES;

        private final Train train;
        private final Load[] loads = new Load[MOST_WAGONS];
        private final int[] boxOfRank = new int[MOST_BOXES];
        private final int[] worth = new int[MOST_BOXES];
        private final int[] worthFrom = new int[MOST_BOXES + 1];
        private final int[] tried = new int[MOST_BOXES];
        private final int[] best = new int[MOST_BOXES];
        private int triedWorth = 0;
        private int bestWorth = 0;

        Planner(Train train) {
            this.train = train;
            for (int wagon = 0; wagon < MOST_WAGONS; wagon++) {
                loads[wagon] = new Load();
            }
        }

        void makePlan() {
            clearLoads();
            weighBoxes();
            Arrays.fill(tried, NONE);
            triedWorth = 0;
            bestWorth = -1;
            tryFrom(0);
            putBestOn();
        }

        int lengthUsed() {
            int length = 0;
            for (int wagon = 0; wagon < train.wagonCount; wagon++) {
                length += loads[wagon].length;
            }
            return length;
        }

        int boxesLoaded() {
            int loaded = 0;
            for (int wagon = 0; wagon < train.wagonCount; wagon++) {
                loaded += loads[wagon].boxCount;
            }
            return loaded;
        }

        int wagonOf(int box) {
            return train.hasBox(box) ? best[box] : NONE;
        }

        int patternOf(int wagon) {
            if (!train.hasWagon(wagon) || loads[wagon].boxCount == 0) {
                return NONE;
            }
            return train.wagons[wagon].leastPattern(loads[wagon], 0);
        }

        int placeOf(int box) {
            int wagon = wagonOf(box);
            int pattern = patternOf(wagon);
            if (pattern == NONE) {
                return NONE;
            }
            int size = train.boxes[box].size;
            int before = 0;
            for (int other = 0; other < box; other++) {
                if (best[other] == wagon && train.boxes[other].size == size) {
                    before++;
                }
            }
            return train.wagons[wagon].patterns[pattern].placeBehind(size, before);
        }

        /** The box that has so many others before it among those not loaded, in order of booking, or NONE. */
        int leftBehind(int before) {
            int seen = 0;
            for (int rank = 0; rank < train.boxCount; rank++) {
                int box = boxOfRank[rank];
                if (best[box] == NONE) {
                    if (seen == before) {
                        return box;
                    }
                    seen++;
                }
            }
            return NONE;
        }

        private void clearLoads() {
            for (int wagon = 0; wagon < MOST_WAGONS; wagon++) {
                loads[wagon].clear();
            }
        }

        /**
         * Gives each box a worth such that of two sets of boxes the better one has the greater sum:
         * length first, then a bit of its own, the higher the earlier it is booked.
         */
        private void weighBoxes() {
            worthFrom[train.boxCount] = 0;
            for (int box = train.boxCount - 1; box >= 0; box--) {
                int rank = train.rankOf(box);
                boxOfRank[rank] = box;
                worth[box] = lengthOfSize(train.boxes[box].size) * LENGTH_UNIT + (LENGTH_UNIT >> (rank + 1));
                // What no wagon takes promises nothing, which lets the search stop sooner.
                worthFrom[box] = worthFrom[box + 1] + (someWagonTakes(box) ? worth[box] : 0);
            }
        }

        private boolean someWagonTakes(int box) {
            for (int wagon = 0; wagon < train.wagonCount; wagon++) {
                if (mayPutOn(box, wagon)) {
                    return true;
                }
            }
            return false;
        }

        /**
         * Tries this box and those behind it on all wagons, the least first: so of loadings with the same
         * boxes (they alone have the same worth) the one that the plan prefers comes first and stays.
         */
        private void tryFrom(int box) {
            if (box > train.boxCount || triedWorth + worthFrom[box] <= bestWorth) {
                return;
            }
            if (box == train.boxCount) {
                bestWorth = triedWorth;
                System.arraycopy(tried, 0, best, 0, MOST_BOXES);
                return;
            }
            for (int wagon = 0; wagon < train.wagonCount; wagon++) {
                if (mayPutOn(box, wagon)) {
                    tryOn(box, wagon);
                }
            }
            tryFrom(box + 1);
        }

        private void tryOn(int box, int wagon) {
            loads[wagon].putOn(train.boxes[box]);
            triedWorth += worth[box];
            tried[box] = wagon;
            tryFrom(box + 1);
            tried[box] = NONE;
            triedWorth -= worth[box];
            loads[wagon].takeOff(train.boxes[box]);
        }

        private void putBestOn() {
            for (int box = 0; box < train.boxCount; box++) {
                if (train.hasWagon(best[box])) {
                    loads[best[box]].putOn(train.boxes[box]);
                }
            }
        }

        private boolean mayPutOn(int box, int number) {
            Box added = train.boxes[box];
            Wagon wagon = train.wagons[number];
            Load load = loads[number];
            return !wagon.isOut
                    && added.booked <= train.cutOff
                    && added.height <= wagon.gauge
                    && load.weight + added.weight <= wagon.mostWeight
                    && wagon.leastPattern(load, added.size) != NONE
                    && rulesAllow(added.danger, number);
        }

        private boolean rulesAllow(int danger, int wagon) {
            for (int near = wagon - 1; near <= wagon + 1; near++) {
                int leastRule = near == wagon ? ONE_WAGON : NEIGHBOURS;
                if (train.hasWagon(near) && isBarred(danger, loads[near], leastRule)) {
                    return false;
                }
            }
            return true;
        }

        /** Whether a kind of danger has such a rule, or a stricter one, with a kind that stands in a load. */
        private boolean isBarred(int danger, Load load, int leastRule) {
            for (int kind = 1; kind <= DANGERS; kind++) {
                if (load.boxesOfDanger[kind] > 0 && train.rules[danger][kind] >= leastRule) {
                    return true;
                }
            }
            return false;
        }
    }
}
