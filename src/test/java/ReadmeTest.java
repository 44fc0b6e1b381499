import java.io.IOException;
import java.nio.file.Files;
import java.nio.file.Path;
import java.util.ArrayList;
import java.util.List;

/** The examples of README.md: each line is called here, and answers what stands behind it. */
public final class ReadmeTest {
    private static final List<String> CALLS = new ArrayList<>();

    public static void main(String[] args) throws IOException {
        carnet();
        purse();
        List<String> told = examples();
        int wrong = 0;
        for (int i = 0; i < Math.max(told.size(), CALLS.size()); i++) {
            String line = i < told.size() ? told.get(i) : "nothing";
            String call = i < CALLS.size() ? CALLS.get(i) : "nothing";
            if (!isSame(line, call)) {
                wrong++;
                System.out.println("README.md tells \"" + line + "\", due is \"" + call + "\"");
            }
        }
        System.out.println(told.size() + " lines of README.md, " + wrong + " wrong");
        if (wrong != 0 || told.isEmpty()) {
            System.exit(1);
        }
    }

    /** Behind the answer README.md may go on with ": " and what it means. */
    private static boolean isSame(String line, String call) {
        return line.equals(call) || line.startsWith(call + ": ");
    }

    private static List<String> examples() throws IOException {
        List<String> told = new ArrayList<>();
        boolean inside = false;
        for (String line : Files.readAllLines(Path.of("README.md"))) {
            if (line.startsWith("```")) {
                inside = line.equals("```java");
            } else if (inside && line.contains("//") && !isWithoutAnswer(line)) {
                told.add(line.replaceAll(" +// ", " // "));
            }
        }
        return told;
    }

    private static boolean isWithoutAnswer(String line) {
        return line.contains(".setClock(") || line.contains(".tearAfter(");
    }

    private static void answer(String call, Object answer) {
        CALLS.add(call + "; // " + answer);
    }

    private static void carnet() {
        TicketTag tag = new TicketTag();
        answer("tag.issue(1, 10, 0, 0)", tag.issue(1, 10, 0, 0));
        tag.setClock(0, 10, 600);
        answer("tag.present(0)", tag.present(0));
        tag.tearAfter(9, 0);
        answer("tag.validate(7, 3, 1)", tag.validate(7, 3, 1));
        answer("tag.lastRide(7)", tag.lastRide(7));
        answer("tag.present(0)", tag.present(0));
        answer("tag.validate(7, 3, 1)", tag.validate(7, 3, 1));
        answer("tag.rides()", tag.rides());
        answer("tag.validate(8, 3, 1)", tag.validate(8, 3, 1));
        answer("tag.away()", tag.away());
        answer("tag.inspect(10, 720, 3)", tag.inspect(10, 720, 3));
        answer("tag.inspect(10, 721, 3)", tag.inspect(10, 721, 3));
    }

    private static void purse() {
        TicketTag purse = new TicketTag();
        answer("purse.issue(3, 300, 250, 0)", purse.issue(3, 300, 250, 0));
        answer("purse.present(4)", purse.present(4));
        answer("purse.validate(1, 1, 0)", purse.validate(1, 1, 0));
        answer("purse.cents()", purse.cents());
        answer("purse.capLeft(0)", purse.capLeft(0));
        answer("purse.validate(1, 1, 2)", purse.validate(1, 1, 2));
        answer("purse.reason()", purse.reason());
        answer("purse.topUp(1000)", purse.topUp(1000));
        answer("purse.validate(1, 1, 2)", purse.validate(1, 1, 2));
        answer("purse.cents()", purse.cents());
        answer("purse.journey(0, 7)", purse.journey(0, 7));
        answer("purse.journey(1, 7)", purse.journey(1, 7));
    }
}
