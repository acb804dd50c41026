import java.io.IOException;
import java.nio.file.Files;
import java.nio.file.Path;
import java.util.ArrayList;
import java.util.Arrays;
import java.util.LinkedHashMap;
import java.util.List;
import java.util.Map;
import java.util.Set;
import java.util.TreeMap;
import java.util.TreeSet;

/**
 * The edges that the document names, sentence by sentence: the runs of src/test/edges, each on a new object. Beside
 * the answers, each run shows that a call with a finding changes nothing but status(), and any other only its part.
 */
public final class EdgesTest {
    private static final Path FOLDER = Path.of("src/test/edges");
    private static final Path DOCUMENT = Path.of("../shared/DOC.md");
    private static final Set<String> OF_PEOPLE = Set.of("person", "set", "turn", "grind", "lend", "days", "lays", "undo");
    private static final Set<String> OF_TAPE = Set.of("feed", "wipe");
    private static final Set<String> OF_SHEETS = Set.of("sheet", "write", "copy", "book");
    private static final Set<String> OF_KEPT = Set.of("image", "tear");

    /** What each call may find; kind()'s NONE is left out, as a SAINT forgives all that there may be in 33 DAYS. */
    private static final Map<String, String> MAY_FIND = new TreeMap<>(Map.ofEntries(
        Map.entry("person", "BEYOND FULL"), Map.entry("of", "BEYOND"), Map.entry("set", "BEYOND"),
        Map.entry("turn", "BEYOND"), Map.entry("as", "BEYOND KIND"), Map.entry("grind", "BEYOND STATE"),
        Map.entry("lend", "BEYOND"), Map.entry("looks", "BEYOND"), Map.entry("sees", "BEYOND"),
        Map.entry("days", "BEYOND STATE"), Map.entry("now", "BEYOND"), Map.entry("on", "BEYOND"),
        Map.entry("then", "BEYOND"), Map.entry("forgives", "BEYOND NONE"), Map.entry("worn", "BEYOND NONE"),
        Map.entry("unseen", "BEYOND NONE"), Map.entry("borrow", "BEYOND NONE"), Map.entry("kind", "BEYOND"),
        Map.entry("better", "BEYOND"), Map.entry("most", "BEYOND NONE"), Map.entry("sharpest", "BEYOND NONE"),
        Map.entry("push", "NONE"), Map.entry("feed", "BEYOND FULL"), Map.entry("sheet", "BEYOND SIZE"),
        Map.entry("write", "BEYOND MISSING"), Map.entry("copy", "BEYOND KIND MISSING"),
        Map.entry("lays", "BEYOND MISSING"), Map.entry("book", "BEYOND MISSING"), Map.entry("read", "BEYOND MISSING"),
        Map.entry("undo", "NONE"), Map.entry("count", "BEYOND"), Map.entry("status", "BEYOND")));

    private static final Map<String, Set<String>> HAS_FOUND = new TreeMap<>();

    public static void main(String[] args) throws IOException {
        List<Edges.Edge> edges = Edges.all(FOLDER);
        edges.forEach(EdgesTest::run);
        Map<String, String> found = new TreeMap<>();
        HAS_FOUND.forEach((call, names) -> found.put(call, String.join(" ", names)));
        Due.isTrue("each finding of each call is met, and no other: " + found, found.equals(MAY_FIND));
        if (Files.isReadable(DOCUMENT)) {
            everySentenceHasAnEdge(edges, sections(Files.readAllLines(DOCUMENT)));
        } else {
            System.out.println("no " + DOCUMENT + " to look the sentences up in");
        }
        System.out.println(edges.size() + " edges");
        Due.end();
    }

    private static void run(Edges.Edge edge) {
        GrudgeGlasses x = new GrudgeGlasses();
        Model model = new Model();
        Due.isTrue(edge.where() + ": has calls, 512 at most", !edge.rows().isEmpty() && edge.rows().size() <= 512);
        for (int i = 0; i < edge.rows().size(); i++) {
            Edges.Row row = edge.rows().get(i);
            String told = row.where() + ": " + row.call() + Arrays.toString(row.arguments());
            long got = Calls.answer(x, row.call(), row.arguments());
            Due.is(told, got, row.due() == null ? got : row.due());
            Due.is(told + " as the model answers", got, model.answer(row.call(), row.arguments()));
            if (row.finding() != null) {
                HAS_FOUND.computeIfAbsent(row.call(), c -> new TreeSet<>()).add(row.finding());
            }
            changesNoMoreThanItMay(told, edge.rows().subList(0, i), row);
        }
    }

    private static void changesNoMoreThanItMay(String told, List<Edges.Row> before, Edges.Row row) {
        if (row.finding() == null && row.due() != null && row.due() < -1000000000) {
            return; // A finding told by its number, or a number like one: there is a run by its name, too.
        }
        List<Edges.Row> after = new ArrayList<>(before);
        after.add(row);
        List<Edges.Row> instead = new ArrayList<>(before);
        if (row.call().equals("quay")) {
            instead.add(new Edges.Row("", "wipe", new long[0], null, null));
        }
        for (Witness.Part part : Witness.Part.values()) {
            if (part == Witness.Part.STATUS || !mayChange(row, part)) {
                List<Long> due = Witness.of(part, instead);
                if (part == Witness.Part.STATUS && row.finding() != null) {
                    countOneMore(due, 0);
                    countOneMore(due, 1 + Edges.FINDINGS.indexOf(row.finding()));
                }
                List<Long> got = Witness.of(part, after);
                Due.isTrue(told + " leaves " + part + " as it should: " + got + ", due is " + due, got.equals(due));
            }
        }
    }

    private static void countOneMore(List<Long> counts, int i) {
        counts.set(i, counts.get(i) + 1);
    }

    /** quay() is held against wipe(), so that the tape of both is empty. */
    private static boolean mayChange(Edges.Row row, Witness.Part part) {
        boolean isFault = row.due() != null && row.due() < 0;
        if (row.finding() != null || row.call().equals("quay") && isFault) {
            return false;
        }
        boolean isOfPeople = OF_PEOPLE.contains(row.call()) || row.call().equals("quay");
        switch (part) {
            case PEOPLE:
                return isOfPeople;
            case TEXT:
                return isOfPeople || OF_TAPE.contains(row.call());
            case TAPE:
                return OF_TAPE.contains(row.call());
            case SHEETS:
                return OF_SHEETS.contains(row.call());
            default:
                return OF_KEPT.contains(row.call());
        }
    }

    /** The document's sections by their headings, each on one line. */
    private static Map<String, String> sections(List<String> lines) {
        Map<String, String> sections = new LinkedHashMap<>();
        String heading = "";
        for (String line : lines) {
            if (line.startsWith("## ")) {
                heading = line.substring(3).trim();
            } else if (!line.startsWith("```") && !line.startsWith("Ahead of the calls")) {
                sections.merge(heading, line.trim(), (a, b) -> (a + " " + b).trim());
            }
        }
        return sections;
    }

    private static void everySentenceHasAnEdge(List<Edges.Edge> edges, Map<String, String> sections) {
        for (Edges.Edge edge : edges) {
            String text = sections.getOrDefault(edge.section(), "");
            Due.isTrue(edge.where() + ": has a quote", !edge.quotes().isEmpty());
            for (String quote : edge.quotes()) {
                Due.isTrue(edge.where() + ": the document says so", text.contains(quote));
            }
        }
        sections.forEach((heading, text) -> {
            if (heading.equals("Terms") || heading.startsWith("Promise")) {
                for (String sentence : text.replaceAll(" [1-3]\\. ", " ").split("(?<=[^.]\\.\\)?) +(?=[(A-Z`2-3])")) {
                    Due.isTrue("'" + heading + "' has an edge of: " + sentence, isQuoted(edges, heading, sentence));
                }
            }
        });
    }

    private static boolean isQuoted(List<Edges.Edge> edges, String heading, String sentence) {
        return edges.stream().filter(edge -> edge.section().equals(heading))
            .flatMap(edge -> edge.quotes().stream()).anyMatch(sentence::contains);
    }
}
