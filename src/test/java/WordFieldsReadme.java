import java.io.IOException;
import java.nio.file.Files;
import java.nio.file.Path;
import java.util.ArrayList;
import java.util.List;

// The example of README.md: each of its calls stands there as it is made here, and answers what its comment says.
public final class WordFieldsReadme {
    private static int wrong = 0;
    private static final List<String> made = new ArrayList<>();

    public static void main(String[] args) throws IOException {
        WordFields x = new WordFields();
        due("x.set(0, -123456789, false);", x.set(0, -123456789, false), "true");
        due("x.byteOf(0, 0);", x.byteOf(0, 0), "1");
        due("x.byteOf(0, 1);", x.byteOf(0, 1), "7");
        due("x.load(1, 0, 8 * 0 + 2);", x.load(1, 0, 8 * 0 + 2), "true");
        due("x.value(1);", x.value(1), "-470");
        due("x.store(0, 1, 8 * 4 + 4);", x.store(0, 1, 8 * 4 + 4), "true");
        due("x.value(0);", x.value(0), "-123454869");
        due("x.compare(0, 1, 8 * 1 + 5);", x.compare(0, 1, 8 * 1 + 5), "1");
        due("x.turn(2);", x.turn(2), "true");
        due("x.value(2);", x.value(2), "-2147483648");
        due("x.isField(8 * 3 + 2);", x.isField(8 * 3 + 2), "false");
        due("x.letter(10);", x.letter(10), "126");
        due("x.code('a');", x.code('a'), "1");
        due("x.set(16, 1, false);", x.set(16, 1, false), "false");
        dueInReadme();
        System.out.println(wrong == 0 ? "the example of README.md is as due" : wrong + " lines are not as due");
        if (wrong != 0) {
            System.exit(1);
        }
    }

    private static void due(String call, Object got, String want) {
        made.add(call + " // " + want);
        if (!got.toString().equals(want)) {
            wrong++;
            System.out.println(call + " answered " + got + ", due is " + want);
        }
    }

    private static void dueInReadme() throws IOException {
        List<String> told = new ArrayList<>();
        for (String line : Files.readAllLines(Path.of("README.md"))) {
            if (line.startsWith("x.")) {
                told.add(line.replaceAll(" +//", " //").replaceAll("(// -?\\w+).*", "$1"));
            }
        }
        if (!told.equals(made)) {
            wrong++;
            System.out.println("README.md tells " + told + ", made here were " + made);
        }
    }
}
