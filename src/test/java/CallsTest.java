/** "An object is used for at most 512 calls after it has been made": the last of them still answers as the first. */
public final class CallsTest {
    private static final int MOST_CALLS = 512;
    private static final Check check = new Check();

    public static void main(String[] args) {
        callsOfPlans();
        callsThatAreRefused();
        check.end("CallsTest");
    }

    /** The search begins anew again and again: nothing of an earlier plan may be left. */
    private static void callsOfPlans() {
        TrainLoads x = new TrainLoads();
        int calls = 0;
        for (int wagon = 0; wagon < 3; wagon++) {
            x.wagon(30, 3, 2, 9);
            x.pattern(wagon, 1111);
            calls += 2;
        }
        for (int box = 0; box < 8; box++) {
            x.box(1, 1, 1, 0, box);
            calls++;
        }
        for (int day = 0; calls + 2 <= MOST_CALLS; day = (day + 3) % 8) {
            check.due("cut, call " + calls, x.cut(day), true);
            check.due("plan, call " + (calls + 1), x.plan(), 4 * (day + 1));
            calls += 2;
        }
        check.due("calls of plans", calls, MOST_CALLS);
    }

    private static void callsThatAreRefused() {
        TrainLoads x = Trains.full();
        // 3 wagons, 12 patterns, 8 boxes and a rule have been told.
        int calls = 24;
        x.plan();
        int length = x.count(3);
        calls += 2;
        for (; calls < MOST_CALLS - 2; calls++) {
            check.dueThrow("box, call " + calls, () -> x.box(1, 1, 1, 1, 1), IllegalStateException.class);
        }
        check.due("boxes after so many refused", x.count(1), 8);
        check.due("length after so many refused", x.count(3), length);
    }
}
