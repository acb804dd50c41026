import java.io.IOException;
import java.nio.file.Files;
import java.nio.file.Path;
import java.util.ArrayList;
import java.util.List;
import java.util.regex.Matcher;
import java.util.regex.Pattern;

/** Reads the runs of src/test/edges; README.md says how they are written. */
final class Edges {
    /** One call; due is null where the run doesn't tell it, finding is null where it isn't due to be one. */
    record Row(String where, String call, long[] arguments, Long due, String finding) {
    }

    /** A run of calls on a new object, and the sentences of the document that it is for. */
    record Edge(String where, String section, List<String> quotes, List<Row> rows) {
    }

    static final List<String> FINDINGS = List.of("BEYOND", "FULL", "KIND", "NONE", "STATE", "MISSING", "SIZE");
    private static final Pattern CALL = Pattern.compile("(?:(\\d+) x )?(\\w+)\\(([^)]*)\\)(?: +(\\S+))?");
    private static final Pattern TEXT = Pattern.compile("(tape|text|fault) '(.*)'(?: +(\\S+))?");
    private static final Pattern QUOTE = Pattern.compile("\"([^\"]*)\"");

    private final List<Edge> edges = new ArrayList<>();
    private String where = "";
    private String section = "";

    static List<Edge> all(Path folder) throws IOException {
        List<Path> files;
        try (var found = Files.list(folder)) {
            files = found.filter(f -> f.toString().endsWith(".txt")).sorted().toList();
        }
        Edges reader = new Edges();
        for (Path file : files) {
            reader.takeFile(file);
        }
        return reader.edges;
    }

    private void takeFile(Path file) throws IOException {
        section = "";
        int line = 0;
        for (String row : Files.readAllLines(file)) {
            line++;
            where = file.getFileName() + ":" + line;
            if (row.startsWith("== ")) {
                section = row.substring(3).trim();
            } else if (row.startsWith("-- ")) {
                edges.add(new Edge(where + " " + row, section, quotesOf(row), new ArrayList<>()));
            } else if (!row.isBlank() && !row.startsWith("//")) {
                takeRow(row.trim());
            }
        }
    }

    private static List<String> quotesOf(String row) {
        List<String> quotes = new ArrayList<>();
        Matcher m = QUOTE.matcher(row);
        while (m.find()) {
            quotes.add(m.group(1));
        }
        return quotes;
    }

    private void takeRow(String row) {
        Matcher text = TEXT.matcher(row);
        Matcher call = CALL.matcher(row);
        if (text.matches()) {
            takeText(text.group(1), text.group(2), text.group(3));
        } else if (call.matches()) {
            int times = call.group(1) == null ? 1 : Integer.parseInt(call.group(1));
            for (int i = 0; i < times; i++) {
                takeCall(call.group(2), numbersOf(call.group(3)), call.group(4));
            }
        } else {
            throw new IllegalArgumentException(where + ": " + row);
        }
    }

    private void takeText(String how, String text, String answer) {
        String bytes = unescaped(text);
        for (int i = 0; i < bytes.length(); i += 4) {
            String some = bytes.substring(i, Math.min(i + 4, bytes.length()));
            int number = 0;
            for (char b : some.toCharArray()) {
                number = number << 8 | b;
            }
            add("feed", new long[] {number, some.length()}, null);
        }
        if (how.equals("text")) {
            add("quay", new long[0], answer);
        } else if (how.equals("fault")) {
            add("quay", new long[0], Integer.toString(-1 - Integer.parseInt(answer)));
        }
    }

    /** A byte may be told by two signs, \x and how it is written in base 16. */
    private static String unescaped(String text) {
        return Pattern.compile("\\\\x([0-9a-f]{2})").matcher(text)
            .replaceAll(m -> Matcher.quoteReplacement(String.valueOf((char) Integer.parseInt(m.group(1), 16))));
    }

    private void takeCall(String call, long[] a, String answer) {
        if (call.equals("put")) {
            for (int i = 1; i < a.length; i++) {
                add("set", new long[] {a[0], i, a[i]}, null);
            }
        } else if (call.equals("is")) {
            for (int i = 1; i < a.length; i++) {
                add("of", new long[] {a[0], i - 1}, Long.toString(a[i]));
            }
        } else {
            add(call, a, answer);
        }
    }

    private void add(String call, long[] a, String answer) {
        int finding = answer == null ? -1 : FINDINGS.indexOf(answer);
        Long due = answer == null ? null : finding >= 0 ? Long.valueOf(Due.BEYOND - finding) : Long.valueOf(answer);
        Row row = new Row(where, call, a, due, finding >= 0 ? answer : null);
        edges.get(edges.size() - 1).rows().add(row);
    }

    private static long[] numbersOf(String list) {
        if (list.isBlank()) {
            return new long[0];
        }
        String[] words = list.split(",");
        long[] numbers = new long[words.length];
        for (int i = 0; i < words.length; i++) {
            String word = words[i].trim();
            numbers[i] = word.equals("least") ? Integer.MIN_VALUE : word.equals("most") ? Integer.MAX_VALUE
                : Long.parseLong(word);
        }
        return numbers;
    }
}
