import java.util.List;
import java.util.function.Consumer;
import java.util.function.Supplier;
import java.util.function.ToLongFunction;

/** Two trains made alike, of which one hears a call more: if that changed nothing, all goes on alike on both. */
final class Twins {
    /** What may follow; each brings something to light that the answers alone would hide. */
    private static final List<Consumer<TrainLoads>> SEQUELS = List.of(
        x -> { },
        x -> x.plan(),
        Twins::withoutRules,
        Twins::withoutCutOff,
        Twins::othersOut,
        Twins::fillUp);

    private Twins() {
    }

    /** The call must answer as due, and leave all as it was. */
    static void dueNoChange(Check check, String what, Supplier<TrainLoads> made, ToLongFunction<TrainLoads> call,
            String due) {
        for (int sequel = 0; sequel < SEQUELS.size(); sequel++) {
            TrainLoads touched = made.get();
            TrainLoads untouched = made.get();
            check.dueText(what, Check.answer(() -> call.applyAsLong(touched)), due);
            SEQUELS.get(sequel).accept(touched);
            SEQUELS.get(sequel).accept(untouched);
            check.dueText(what + " and then (" + sequel + ")", Answers.of(touched), Answers.of(untouched));
        }
    }

    private static void withoutRules(TrainLoads x) {
        for (int a = 1; a <= 3; a++) {
            for (int b = 1; b <= a; b++) {
                x.rule(a, b, 0);
            }
        }
        x.plan();
    }

    private static void withoutCutOff(TrainLoads x) {
        x.cut(Trains.LAST_DAY);
        x.plan();
    }

    private static void othersOut(TrainLoads x) {
        for (int wagon = 0; wagon < 3; wagon++) {
            // What is out comes in, what is in goes out.
            if (!x.out(wagon, false)) {
                x.out(wagon, true);
            }
        }
        x.plan();
    }

    /** Tells more than there is room for: what is refused then is refused by both. */
    private static void fillUp(TrainLoads x) {
        for (int wagon = 0; wagon < 3; wagon++) {
            int number = wagon;
            Check.answer(() -> x.wagon(9, 5, 2, 4));
            for (int pattern = 0; pattern < 4; pattern++) {
                Check.answer(() -> x.pattern(number, 1));
            }
        }
        for (int box = 0; box < 8; box++) {
            Check.answer(() -> x.box(1, 1, 1, 1, 3));
        }
        x.plan();
    }
}
