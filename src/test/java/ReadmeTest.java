import java.io.IOException;
import java.lang.reflect.Method;
import java.lang.reflect.Modifier;
import java.nio.file.DirectoryStream;
import java.nio.file.Files;
import java.nio.file.Path;

/** README.md shows an example that answers as it says, and leaves out no call and no test. */
public final class ReadmeTest {
    private static final String[] EXAMPLE = {
        "TrainLoads train = new TrainLoads();",
        "int wagon = train.wagon(12, 50, 4, 10);   // length, most weight, axles, gauge",
        "train.pattern(wagon, 21);                 // a place of size 2, on its right one of size 1",
        "int box = train.box(1, 20, 9, 0, 5);      // size, weight, height, danger, day of booking",
        "train.rule(1, 2, 2);                      // dangers 1 and 2 not on one or on neighbouring wagons",
        "int length = train.plan();                // 4",
        "int on = train.at(box, 0);                // 0, its wagon",
        "int place = train.at(box, 1);             // 1, its place from the left"};
    private static final Check check = new Check();

    public static void main(String[] args) throws IOException {
        String readme = Files.readString(Path.of("README.md"));
        exampleStandsThere(readme);
        exampleAnswers();
        callsAreNamed(readme);
        testsAreNamed(readme);
        check.end("ReadmeTest");
    }

    /** So that whoever changes the example there changes it here too. */
    private static void exampleStandsThere(String readme) {
        String block = "```java\n" + String.join("\n", EXAMPLE) + "\n```";
        check.due("the example stands in README.md", readme.contains(block), true);
    }

    private static void exampleAnswers() {
        TrainLoads train = new TrainLoads();
        int wagon = train.wagon(12, 50, 4, 10);
        train.pattern(wagon, 21);
        int box = train.box(1, 20, 9, 0, 5);
        train.rule(1, 2, 2);
        check.due("example: length", train.plan(), 4);
        check.due("example: wagon", train.at(box, 0), 0);
        check.due("example: place", train.at(box, 1), 1);
    }

    private static void callsAreNamed(String readme) {
        for (Method method : TrainLoads.class.getDeclaredMethods()) {
            if (Modifier.isPublic(method.getModifiers())) {
                check.due("README.md names " + method.getName(), readme.contains("`" + method.getName() + "("), true);
            }
        }
    }

    private static void testsAreNamed(String readme) throws IOException {
        try (DirectoryStream<Path> tests = Files.newDirectoryStream(Path.of("src/test/java"), "*Test.java")) {
            for (Path test : tests) {
                String name = test.getFileName().toString().replace(".java", "");
                check.due("README.md names " + name, readme.contains("- `" + name + "`: "), true);
            }
        }
    }
}
