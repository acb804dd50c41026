import java.io.IOException;
import java.lang.reflect.Method;
import java.lang.reflect.Modifier;
import java.nio.file.Files;
import java.nio.file.Path;
import java.util.HashMap;
import java.util.List;
import java.util.Map;
import java.util.Set;
import java.util.TreeSet;
import java.util.regex.Matcher;
import java.util.regex.Pattern;

/** What README.md says is so: its calls answer as they do there, and its tables leave nothing out. */
public final class ReadmeTest {
    private static final String NEW_OBJECT = "GrudgeGlasses quay = new GrudgeGlasses();";
    private static final Pattern CALL =
        Pattern.compile("(?:int (\\w+) = )?quay\\.(\\w+)\\(([^)]*)\\); +// (-?\\w+), .*");

    private final Map<String, Long> names = new HashMap<>();
    private GrudgeGlasses quay = null;

    public static void main(String[] args) throws IOException {
        List<String> lines = Files.readAllLines(Path.of("README.md"));
        callsAnswerAsTold(lines);
        everyCallIsNamed(firstColumnOf("calls", lines));
        everyFindingIsNumbered(lines);
        everyTestIsNamed(firstColumnOf("test", lines));
        Due.end();
    }

    private static void callsAnswerAsTold(List<String> lines) {
        ReadmeTest reader = new ReadmeTest();
        boolean isCode = false;
        int blocks = 0;
        for (String line : lines) {
            if (line.startsWith("```")) {
                isCode = line.equals("```java");
                blocks += isCode ? 1 : 0;
            } else if (isCode) {
                reader.take(line);
            }
        }
        Due.isTrue("README.md has code", blocks > 0);
    }

    private void take(String line) {
        if (line.equals(NEW_OBJECT)) {
            quay = new GrudgeGlasses();
            names.clear();
            return;
        }
        Matcher m = CALL.matcher(line);
        boolean isCall = m.matches() && quay != null;
        Due.isTrue("README.md: a call with its answer: " + line, isCall);
        if (isCall) {
            long got = Calls.answer(quay, m.group(2), numbersOf(m.group(3)));
            Due.is("README.md: " + line, got, answerOf(m.group(4)));
            if (m.group(1) != null) {
                names.put(m.group(1), got);
            }
        }
    }

    private long[] numbersOf(String list) {
        String[] words = list.isBlank() ? new String[0] : list.split(", ");
        long[] numbers = new long[words.length];
        for (int i = 0; i < words.length; i++) {
            numbers[i] = names.containsKey(words[i]) ? names.get(words[i]) : Long.decode(words[i]);
        }
        return numbers;
    }

    private static long answerOf(String word) {
        int finding = Edges.FINDINGS.indexOf(word);
        return finding >= 0 ? Due.BEYOND - finding : Long.parseLong(word);
    }

    /** The words of the first column of the table with that heading. */
    private static Set<String> firstColumnOf(String heading, List<String> lines) {
        Set<String> words = new TreeSet<>();
        boolean isThere = false;
        for (String line : lines) {
            if (line.startsWith("| " + heading + " |")) {
                isThere = true;
            } else if (!line.startsWith("|")) {
                isThere = false;
            } else if (isThere && !line.startsWith("| ---")) {
                words.addAll(List.of(line.split("\\|")[1].replace("`", "").trim().split(" ")));
            }
        }
        return words;
    }

    private static void everyCallIsNamed(Set<String> told) {
        Set<String> face = new TreeSet<>();
        for (Method m : GrudgeGlasses.class.getDeclaredMethods()) {
            if (Modifier.isPublic(m.getModifiers())) {
                face.add(m.getName());
            }
        }
        Due.isTrue("README.md names every call, and no other: " + told, told.equals(face));
    }

    private static void everyFindingIsNumbered(List<String> lines) {
        for (String name : Edges.FINDINGS) {
            String row = "| " + answerOf(name) + " | " + name + " |";
            Due.isTrue("README.md has the row " + row, lines.contains(row));
        }
    }

    private static void everyTestIsNamed(Set<String> told) throws IOException {
        Set<String> tests = new TreeSet<>();
        try (var files = Files.list(Path.of("src/test/java"))) {
            files.map(file -> file.getFileName().toString()).filter(name -> name.endsWith("Test.java"))
                .forEach(name -> tests.add(name.substring(0, name.length() - ".java".length())));
        }
        Due.isTrue("README.md names every test, and no other: " + told, told.equals(tests));
    }
}
