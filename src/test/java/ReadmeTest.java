import java.io.IOException;
import java.nio.file.Files;
import java.nio.file.Path;
import java.util.List;
import java.util.regex.Matcher;
import java.util.regex.Pattern;

/** What README.md tells a caller, held against the class: its example call by call, and its table of events. */
public final class ReadmeTest {
    private static final Pattern EXAMPLE = Pattern.compile("service\\.(\\w+\\(.*\\)); +// (throws )?(-?\\w+).*");
    private static final Pattern KIND = Pattern.compile("\\| (\\d) [A-Z]+ \\|(.*)");
    private static final Pattern RANGE = Pattern.compile("(-?\\d+) \\.\\. (\\d+)");
    private static final int KINDS = 10;

    private ReadmeTest() {
    }

    public static void main(String[] args) throws IOException {
        List<String> lines = Files.readAllLines(Path.of("README.md"));
        example(lines);
        tableOfEvents(lines);
        everyCallIsTold(String.join("\n", lines));
        Run.close();
    }

    private static void example(List<String> lines) {
        PlainService service = new PlainService();
        int found = 0;
        for (String line : lines) {
            if (line.startsWith("service.")) {
                found++;
                Matcher call = EXAMPLE.matcher(line);
                boolean isTold = call.matches();
                check("has a remark that tells the answer: " + line, isTold);
                if (isTold) {
                    String due = (call.group(2) == null ? "" : "throws.") + call.group(3);
                    Run.check("README.md: " + call.group(1), Calls.answer(service, call.group(1)), due);
                }
            }
        }
        check("has an example", found > 0);
    }

    private static void tableOfEvents(List<String> lines) {
        int kind = 0;
        for (String line : lines) {
            Matcher row = KIND.matcher(line);
            if (row.matches()) {
                Run.check("README.md: kinds in a row", row.group(1), Integer.toString(kind));
                String[] cells = row.group(2).split("\\|");
                edges("event(" + kind + ", #, 2, 1, 5)", cells[0], false);
                edges("event(" + kind + ", 1, #, 1, 5)", cells[1], false);
                edges("event(" + kind + ", 1, 2, #, 5)", cells[2], true);
                kind++;
            }
        }
        Run.check("README.md: kinds in the table", Integer.toString(kind), Integer.toString(KINDS));
    }

    /** A cell without a range stands for a number that does not matter. */
    private static void edges(String call, String cell, boolean isMeasure) {
        Run run = new Run("README.md: " + call);
        Matcher range = RANGE.matcher(cell);
        boolean hasRange = range.find();
        int lowest = hasRange ? Integer.parseInt(range.group(1)) : Integer.MIN_VALUE;
        int highest = hasRange ? Integer.parseInt(range.group(2)) : Integer.MAX_VALUE;
        if (hasRange && isMeasure) {
            run.outsideBeside(call, lowest, highest);
        } else if (hasRange) {
            run.unknownBeside(call, lowest, highest);
        }
        run.due(call.replace("#", Integer.toString(lowest)), 0).due(call.replace("#", Integer.toString(highest)), 1);
    }

    private static void everyCallIsTold(String readme) {
        String[] calls = {"event(kind, a, b, c, second)", "state(unit, t)", "sent(unit, t)", "way(unit, node, t)",
            "call(call, what, t)", "best(what, t)", "cover(t)", "hears(unit, t)", "sector(person, t)",
            "missing(sector, seen, i, t)", "count(kind, from, to)", "events()", "refused()"};
        for (String call : calls) {
            check("tells of " + call, readme.contains("`" + call + "`"));
        }
    }

    private static void check(String what, boolean holds) {
        Run.check("README.md " + what, holds ? "yes" : "no", "yes");
    }
}
