import java.util.StringJoiner;
import java.util.function.LongSupplier;

/** All that can be asked of a train, as one text. */
final class Answers {
    private final StringJoiner all = new StringJoiner(" ");
    private final TrainLoads x;

    private Answers(TrainLoads x) {
        this.x = x;
    }

    static String of(TrainLoads x) {
        Answers answers = new Answers(x);
        answers.askBoxes();
        answers.askWagons();
        answers.askCounts();
        return answers.all.toString();
    }

    private void askBoxes() {
        for (int number = 0; number < 8; number++) {
            int box = number;
            ask("at" + box, () -> x.at(box, 0));
            ask("place" + box, () -> x.at(box, 1));
            ask("standby" + box, () -> x.standby(box));
            ask("refused" + box, () -> x.refused(box));
            for (int other = 0; other <= box; other++) {
                int second = other;
                ask("together" + box + second, () -> x.together(box, second) ? 1 : 0);
            }
        }
    }

    private void askWagons() {
        for (int number = 0; number < 3; number++) {
            int wagon = number;
            for (int what = 0; what < 4; what++) {
                int asked = what;
                ask("load" + wagon + what, () -> x.load(wagon, asked));
            }
            ask("axle" + wagon, () -> x.axle(wagon, 0));
            ask("left" + wagon, () -> x.axle(wagon, 1));
        }
    }

    private void askCounts() {
        for (int number = 0; number < 14; number++) {
            int what = number;
            ask("count" + what, () -> x.count(what));
        }
    }

    private void ask(String call, LongSupplier asked) {
        all.add(call + ":" + Check.answer(asked));
    }
}
