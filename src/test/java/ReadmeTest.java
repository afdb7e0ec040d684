import java.io.IOException;
import java.lang.reflect.Method;
import java.lang.reflect.Modifier;
import java.nio.file.Files;
import java.nio.file.Path;
import java.util.ArrayList;
import java.util.List;
import java.util.Set;
import java.util.TreeSet;
import java.util.regex.Matcher;
import java.util.regex.Pattern;
import java.util.stream.Stream;

/** What README.md shows is so: its calls, made in their order on one object, and its tables. */
public final class ReadmeTest {
    private static final Check CHECK = new Check("ReadmeTest");
    private static final String MAKING = "TownAsks town = new TownAsks();";
    private static final Pattern CALL =
            Pattern.compile("town\\.(\\w+)\\(([^()]*)\\); +// (-?\\d+): \\S.*");

    private TownAsks town = null;
    private final Set<String> shown = new TreeSet<>();

    public static void main(String[] args) throws Exception {
        Path source = Path.of(args[0]);
        List<String> readme = Files.readAllLines(Path.of(args[1]));
        new ReadmeTest().calls(inBlocksOf("java", readme));
        findings(readme);
        tests(readme, source);
        howToRunThem(inBlocksOf("sh", readme));
        CHECK.finish();
    }

    private static List<String> inBlocksOf(String language, List<String> readme) {
        List<String> lines = new ArrayList<>();
        String block = null;
        for (String line : readme) {
            if (line.startsWith("```")) {
                block = block == null ? line.substring(3) : null;
            } else if (language.equals(block)) {
                lines.add(line);
            }
        }
        CHECK.due("blocks are left open", block == null ? 0 : 1, 0);
        return lines;
    }

    /** A line that is no call with its answer is a fault, so that none goes by untried. */
    private void calls(List<String> lines) throws ReflectiveOperationException {
        int made = 0;
        for (String line : lines) {
            if (line.equals(MAKING)) {
                town = new TownAsks();
                made++;
            } else {
                call(line);
            }
        }
        CHECK.due("objects are made", made, 1);
        Set<String> face = new TreeSet<>();
        for (Method m : TownAsks.class.getDeclaredMethods()) {
            if (Modifier.isPublic(m.getModifiers())) {
                face.add(m.getName());
            }
        }
        CHECK.dueText("the calls that are shown", shown.toString(), face.toString());
    }

    private void call(String line) throws ReflectiveOperationException {
        Matcher m = CALL.matcher(line);
        if (town == null || !m.matches()) {
            CHECK.dueText("a line", line, "a call on town with its answer");
            return;
        }
        shown.add(m.group(1));
        String[] words = m.group(2).isEmpty() ? new String[0] : m.group(2).split(", ");
        CHECK.due(line, answer(m.group(1), words), Integer.parseInt(m.group(3)));
    }

    private int answer(String name, String[] words) throws ReflectiveOperationException {
        for (Method m : TownAsks.class.getDeclaredMethods()) {
            if (Modifier.isPublic(m.getModifiers()) && m.getName().equals(name)
                    && m.getParameterCount() == words.length) {
                Object[] values = new Object[words.length];
                for (int i = 0; i < words.length; i++) {
                    values[i] = value(words[i], m.getParameterTypes()[i]);
                }
                return (Integer) m.invoke(town, values);
            }
        }
        throw new NoSuchMethodException(name);
    }

    private static Object value(String word, Class<?> type) {
        if (type == boolean.class && Set.of("true", "false").contains(word)) {
            return word.equals("true");
        }
        if (type == long.class && word.endsWith("L")) {
            return Long.decode(word.substring(0, word.length() - 1));
        }
        return Integer.decode(word);
    }

    private static void findings(List<String> readme) {
        List<String> want = List.of(
                Check.BEYOND + " BEYOND", Check.FULL + " FULL", Check.KIND + " KIND",
                Check.NONE + " NONE", Check.STATE + " STATE", Check.LARGE + " LARGE",
                Check.RING + " RING", Check.MISSING + " MISSING", Check.SIZE + " SIZE",
                Check.wrongAt(0) + " less p WRONG");
        List<String> got = new ArrayList<>();
        for (String line : readme) {
            if (line.startsWith("| -")) {
                String[] cells = line.split(" *\\| *");
                got.add(cells[1] + " " + cells[2]);
            }
        }
        CHECK.dueText("findings", got.toString(), want.toString());
    }

    private static void tests(List<String> readme, Path source) throws IOException {
        Set<String> told = new TreeSet<>();
        for (String line : readme) {
            Matcher m = Pattern.compile("\\| (\\w+Test) \\| .+").matcher(line);
            if (m.matches()) {
                told.add(m.group(1));
            }
        }
        Set<String> there = new TreeSet<>();
        Path folder = source.resolveSibling("../../test/java");
        try (Stream<Path> files = Files.list(folder)) {
            files.map(file -> file.getFileName().toString())
                    .filter(name -> name.endsWith("Test.java"))
                    .forEach(name -> there.add(name.replace(".java", "")));
        }
        CHECK.dueText("tests", told.toString(), there.toString());
    }

    private static void howToRunThem(List<String> lines) {
        CHECK.due(".ci/run is named", lines.contains(".ci/run") ? 1 : 0, 1);
    }
}
