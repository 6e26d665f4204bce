import java.io.IOException;
import java.nio.file.Files;
import java.nio.file.Path;
import java.util.ArrayList;
import java.util.List;
import java.util.Set;
import java.util.stream.Collectors;
import java.util.stream.Stream;

/**
 * The boundary cases that the document names, as src/test/edges tells them: sections (==), words of the document (--),
 * and under these words runs of calls (room, house, then rows) on new objects with the answers that are due.
 * All words of the terms and promises are to be quoted, so that no sentence is without a test of its own.
 */
public final class EdgeTest {
    /** A land in which nothing is as at first, so that a change anywhere can be seen. */
    private static final List<String> HOUSE = List.of(
        "text \"tenant at 1 goods 40 marks 5;maid at 3;bishop at 11 goods 999 marks 9\" = 3",
        "text \"dust 0 55;dust 3 130;dust 11 1000;fall 4;draught 1\" = 5",
        "hold(2, 1)", "seed(5)", "image()", "go(1)", "charter(0, 7, 3)", "hold(2, 0)", "hold(9, 2)", "seed(77)",
        "sheet(0, 8, 3)", "write(0, 0, 1)", "write(0, 1, -1)", "write(0, 2, 7)",
        "sheet(1, 16, 2)", "write(1, 0, 300)", "write(1, 1, 9999)", "sheet(3, 32, 2)", "write(3, 0, 5)", "tape \"fall 7\"");

    /** Calls that change nothing, whatever they answer. */
    private static final Set<String> QUESTIONS = Set.of("surface", "of", "mark", "now", "ahead", "goods", "holder", "when",
        "clash", "rich", "seat", "kindFor", "draught", "fallFor", "swapFor", "brooms", "without", "fits", "kinds", "odds",
        "as", "judge", "count", "status");

    private final Words document;
    private final List<String> faults = new ArrayList<>();
    private String section = "";
    private String words = "";
    private int sentences = 0;
    private int answers = 0;
    private int answersBefore = 0;
    private List<Row> run = new ArrayList<>();
    private boolean mayBeLong = false;

    private EdgeTest(Words document) {
        this.document = document;
    }

    public static void main(String[] args) throws IOException {
        String shared = System.getenv("SHARED") == null ? "../shared" : System.getenv("SHARED");
        EdgeTest test = new EdgeTest(new Words(Path.of(shared, "DOC.md")));
        List<Path> files;
        try (Stream<Path> found = Files.list(Path.of("src/test/edges"))) {
            files = found.filter(f -> f.toString().endsWith(".txt")).sorted().collect(Collectors.toList());
        }
        for (Path file : files) {
            for (String line : Files.readAllLines(file)) test.read(line);
            test.endWords();
        }
        test.document.left().forEach(left -> test.faults.add("no test quotes " + left));
        test.faults.forEach(System.out::println);
        System.out.println("EdgeTest: " + test.sentences + " quoted, " + test.answers + " answers looked at, "
            + test.faults.size() + " faults");
        if (!test.faults.isEmpty()) System.exit(1);
    }

    private void fault(String what) {
        faults.add(section + " '" + words + "': " + what);
    }

    private void read(String line) {
        if (line.isBlank() || line.startsWith("#")) return;
        if (line.startsWith("== ")) {
            endWords();
            section = line.substring(3);
        } else if (line.startsWith("-- ")) {
            endWords();
            words = line.substring(3);
            sentences++;
            if (!document.quote(section, words)) fault("the document has no such words there");
        } else if (line.matches("room( .*)?|long|house")) {
            endRun();
            mayBeLong = line.equals("long");
            if (line.startsWith("room ")) run.addAll(Row.of("text \"" + line.substring(5) + "\""));
            if (line.equals("house")) HOUSE.forEach(row -> run.addAll(Row.of(row)));
        } else {
            run.addAll(Row.of(line.trim()));
        }
    }

    private void endWords() {
        endRun();
        if (!words.isEmpty() && answers == answersBefore) fault("nothing is looked at");
        answersBefore = answers;
        words = "";
    }

    private void endRun() {
        Land land = new Land();
        for (int i = 0; i < run.size(); i++) {
            Row row = run.get(i);
            long got = row.on(land);
            if (row.isChecked) {
                answers++;
                if (got != row.due) fault(row + " (row " + (i + 1) + ") answered " + got + ", due is " + row.due);
            } else if (row.name.equals("text") && got < 0) {
                fault("the test's own text has a fault: " + row);
            }
            if (row.finding >= 0 || QUESTIONS.contains(row.name) || isFaulty(row)) changesNothing(i);
        }
        if (!mayBeLong && land.calls > Land.MOST_CALLS) fault("a run of " + land.calls + " calls");
        run = new ArrayList<>();
        mayBeLong = false;
    }

    private static boolean isFaulty(Row row) {
        return row.name.equals("text") && row.due < 0;
    }

    private Land landBehind(int rows) {
        Land land = new Land();
        for (int i = 0; i < rows; i++) run.get(i).on(land);
        return land;
    }

    /** Held against a twin that wasn't asked: no difference but in the findings counted (and the tape by a faulty text). */
    private void changesNothing(int last) {
        Row row = run.get(last);
        Land asked = landBehind(last + 1);
        Land twin = landBehind(last);
        if (isFaulty(row)) twin.call("wipe");
        for (int which = -1; which <= 6; which++) {
            boolean counts = row.finding >= 0 && (which == -1 || which == row.finding);
            long due = twin.call("status", which) + (counts ? row.times : 0);
            long got = asked.call("status", which);
            if (got != due) fault("behind " + row + " status(" + which + ") answered " + got + ", due is " + due);
        }
        String before = Look.at(twin);
        String behind = Look.at(asked);
        if (!behind.equals(before)) fault(row + " changed " + difference(before, behind));
        if (!mayBeLong && asked.calls > Land.MOST_CALLS) fault(row + " is looked at with " + asked.calls + " calls");
    }

    private static String difference(String before, String behind) {
        String[] was = before.split("\n");
        String[] is = behind.split("\n");
        for (int i = 0; i < Math.min(was.length, is.length); i++) {
            if (!was[i].equals(is[i])) return "'" + was[i] + "' to '" + is[i] + "'";
        }
        return "how much there is to see";
    }
}
