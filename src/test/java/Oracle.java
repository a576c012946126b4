import java.util.ArrayList;
import java.util.List;
import java.util.NoSuchElementException;

/** The document put into the plainest code: it looks at every loading there is. */
final class Oracle {
    private static final int[] LENGTH = {0, 4, 8, 9};

    private static final class Wagon {
        private int length;
        private long weight;
        private int axles;
        private int gauge;
        private boolean out;
        private final List<String> patterns = new ArrayList<>();
    }

    private record Box(int size, long weight, int height, int danger, long booked) { }

    private final List<Wagon> wagons = new ArrayList<>();
    private final List<Box> boxes = new ArrayList<>();
    private final int[][] rules = new int[4][4];
    private long cutOff = 1000000000L;
    private int[] plan = null;

    int wagon(int length, long weight, int axles, int gauge) {
        if (length < 1 || length > 30 || weight < 0 || weight > 1000000 || axles < 0 || axles > 8
                || gauge < 1 || gauge > 100) {
            throw new IllegalArgumentException();
        }
        if (wagons.size() == 3) {
            throw new IllegalStateException();
        }
        Wagon added = new Wagon();
        added.length = length;
        added.weight = weight;
        added.axles = axles;
        added.gauge = gauge;
        wagons.add(added);
        plan = null;
        return wagons.size() - 1;
    }

    int pattern(int wagon, int sizes) {
        String digits = String.valueOf(sizes);
        if (wagon < 0 || wagon >= wagons.size() || !digits.matches("[123]{1,4}")
                || digits.chars().map(c -> LENGTH[c - '0']).sum() > wagons.get(wagon).length) {
            throw new IllegalArgumentException();
        }
        List<String> patterns = wagons.get(wagon).patterns;
        if (patterns.size() == 4) {
            throw new IllegalStateException();
        }
        patterns.add(digits);
        plan = null;
        return patterns.size() - 1;
    }

    int box(int size, long weight, int height, int danger, long booked) {
        if (size < 1 || size > 3 || weight < 0 || weight > 1000000 || height < 1 || height > 100
                || danger < 0 || danger > 3 || booked < 0 || booked > 1000000000L) {
            throw new IllegalArgumentException();
        }
        if (boxes.size() == 8) {
            throw new IllegalStateException();
        }
        boxes.add(new Box(size, weight, height, danger, booked));
        plan = null;
        return boxes.size() - 1;
    }

    boolean rule(int a, int b, int rule) {
        if (a < 1 || a > 3 || b < 1 || b > 3 || rule < 0 || rule > 2) {
            return false;
        }
        rules[a][b] = rule;
        rules[b][a] = rule;
        plan = null;
        return true;
    }

    boolean cut(long day) {
        if (day < 0 || day > 1000000000L) {
            return false;
        }
        cutOff = day;
        plan = null;
        return true;
    }

    boolean out(int wagon, boolean is) {
        if (wagon < 0 || wagon >= wagons.size() || wagons.get(wagon).out == is) {
            return false;
        }
        wagons.get(wagon).out = is;
        plan = null;
        return true;
    }

    int plan() {
        int[] loading = new int[boxes.size()];
        int all = 1;
        for (int box = 0; box < boxes.size(); box++) {
            all *= wagons.size() + 1;
        }
        plan = null;
        for (int number = 0; number < all; number++) {
            int rest = number;
            for (int box = 0; box < loading.length; box++) {
                loading[box] = rest % (wagons.size() + 1) - 1;
                rest /= wagons.size() + 1;
            }
            if (mayBe(loading) && (plan == null || isBetter(loading, plan))) {
                plan = loading.clone();
            }
        }
        return used(plan);
    }

    private boolean mayBe(int[] loading) {
        for (int a = 0; a < loading.length; a++) {
            Box box = boxes.get(a);
            if (loading[a] >= 0) {
                Wagon wagon = wagons.get(loading[a]);
                if (wagon.out || box.height > wagon.gauge || box.booked > cutOff) {
                    return false;
                }
            }
            for (int b = 0; b < a; b++) {
                if (loading[a] >= 0 && loading[b] >= 0) {
                    int rule = rules[box.danger][boxes.get(b).danger];
                    int apart = Math.abs(loading[a] - loading[b]);
                    if (rule == 1 && apart == 0 || rule == 2 && apart <= 1) {
                        return false;
                    }
                }
            }
        }
        for (int w = 0; w < wagons.size(); w++) {
            if (weightOn(loading, w) > wagons.get(w).weight || boxesOn(loading, w) > 0 && patternFor(loading, w) < 0) {
                return false;
            }
        }
        return true;
    }

    private long weightOn(int[] loading, int wagon) {
        long weight = 0;
        for (int box = 0; box < loading.length; box++) {
            weight += loading[box] == wagon ? boxes.get(box).weight : 0;
        }
        return weight;
    }

    private int boxesOn(int[] loading, int wagon) {
        int n = 0;
        for (int at : loading) {
            n += at == wagon ? 1 : 0;
        }
        return n;
    }

    private int patternFor(int[] loading, int wagon) {
        List<String> patterns = wagons.get(wagon).patterns;
        for (int p = 0; p < patterns.size(); p++) {
            StringBuilder free = new StringBuilder(patterns.get(p));
            boolean holds = true;
            for (int box = 0; box < loading.length; box++) {
                if (loading[box] == wagon) {
                    int place = free.indexOf(String.valueOf(boxes.get(box).size));
                    holds &= place >= 0;
                    if (place >= 0) {
                        free.setCharAt(place, '-');
                    }
                }
            }
            if (holds) {
                return p;
            }
        }
        return -1;
    }

    private int used(int[] loading) {
        int length = 0;
        for (int box = 0; box < loading.length; box++) {
            length += loading[box] >= 0 ? LENGTH[boxes.get(box).size] : 0;
        }
        return length;
    }

    private List<Integer> inOrder() {
        List<Integer> order = new ArrayList<>();
        for (int box = 0; box < boxes.size(); box++) {
            order.add(box);
        }
        // A sort of objects is stable: of equal days the least number stays first.
        order.sort((a, b) -> Long.compare(boxes.get(a).booked, boxes.get(b).booked));
        return order;
    }

    private boolean isBetter(int[] a, int[] b) {
        if (used(a) != used(b)) {
            return used(a) > used(b);
        }
        for (int box : inOrder()) {
            if ((a[box] >= 0) != (b[box] >= 0)) {
                return a[box] >= 0;
            }
        }
        for (int box = 0; box < a.length; box++) {
            if (a[box] != b[box]) {
                return a[box] < b[box];
            }
        }
        return false;
    }

    private void test(boolean isThere) {
        if (!isThere) {
            throw new IndexOutOfBoundsException();
        }
        if (plan == null) {
            throw new NoSuchElementException();
        }
    }

    int at(int box, int what) {
        test(box >= 0 && box < boxes.size() && what >= 0 && what <= 1);
        int wagon = plan[box];
        if (what == 0 || wagon < 0) {
            return wagon;
        }
        StringBuilder free = new StringBuilder(wagons.get(wagon).patterns.get(patternFor(plan, wagon)));
        int place = -1;
        for (int other = 0; other <= box; other++) {
            if (plan[other] == wagon) {
                place = free.indexOf(String.valueOf(boxes.get(other).size));
                free.setCharAt(place, '-');
            }
        }
        return place;
    }

    long load(int wagon, int what) {
        test(wagon >= 0 && wagon < wagons.size() && what >= 0 && what <= 3);
        if (what == 0) {
            return boxesOn(plan, wagon) == 0 ? -1 : patternFor(plan, wagon);
        }
        if (what == 1) {
            return boxesOn(plan, wagon);
        }
        if (what == 3) {
            return weightOn(plan, wagon);
        }
        int length = 0;
        for (int box = 0; box < plan.length; box++) {
            length += plan[box] == wagon ? LENGTH[boxes.get(box).size] : 0;
        }
        return length;
    }

    long axle(int wagon, int side) {
        test(wagon >= 0 && wagon < wagons.size() && side >= 0 && side <= 1);
        int axles = wagons.get(wagon).axles;
        if (axles == 0) {
            throw new ArithmeticException();
        }
        long whole = weightOn(plan, wagon) / axles;
        return side == 0 ? whole : weightOn(plan, wagon) - whole * axles;
    }

    int standby(int i) {
        test(true);
        List<Integer> left = new ArrayList<>();
        for (int box : inOrder()) {
            if (plan[box] < 0) {
                left.add(box);
            }
        }
        return i >= 0 && i < left.size() ? left.get(i) : -1;
    }

    int refused(int box) {
        if (box < 0 || box >= boxes.size()) {
            throw new IndexOutOfBoundsException();
        }
        if (wagons.isEmpty()) {
            return 4;
        }
        Box asked = boxes.get(box);
        int greatest = 0;
        for (Wagon wagon : wagons) {
            String size = String.valueOf(asked.size);
            int reason = 0;
            reason = asked.weight > wagon.weight ? 3 : reason;
            reason = asked.height > wagon.gauge ? 2 : reason;
            reason = wagon.patterns.stream().noneMatch(p -> p.contains(size)) ? 1 : reason;
            if (reason == 0) {
                return 0;
            }
            greatest = Math.max(greatest, reason);
        }
        return greatest;
    }

    boolean together(int a, int b) {
        if (a < 0 || a >= boxes.size() || b < 0 || b >= boxes.size()) {
            throw new IndexOutOfBoundsException();
        }
        return rules[boxes.get(a).danger][boxes.get(b).danger] == 0;
    }

    int count(int what) {
        if (what == 0) {
            return wagons.size();
        }
        if (what == 1) {
            return boxes.size();
        }
        if (what == 4) {
            return plan == null ? 0 : 1;
        }
        if (what == 2 && plan != null) {
            int loaded = 0;
            for (int at : plan) {
                loaded += at >= 0 ? 1 : 0;
            }
            return loaded;
        }
        if (what == 3 && plan != null) {
            return used(plan);
        }
        return what >= 10 && what - 10 < wagons.size() ? wagons.get(what - 10).patterns.size() : -1;
    }
}
