import java.lang.reflect.Constructor;
import java.lang.reflect.Field;
import java.lang.reflect.Method;
import java.lang.reflect.Modifier;
import java.nio.file.Files;
import java.nio.file.Path;
import java.util.HashSet;
import java.util.Set;
import java.util.TreeSet;
import java.util.regex.Matcher;
import java.util.regex.Pattern;

/** The face is the document's and no more, and the source keeps to the rules that can be seen in it. */
public final class FaceTest {
    private static final Check CHECK = new Check("FaceTest");

    private static final String[] FACE = {
        "int ask(int, int, int, int, int)", "int marks(int, int, int)", "int meet(int, int)",
        "int of(int, int)", "int as(int, int)", "int fewest(int, int)", "int thing(int, int)",
        "int asked(int, int)", "int feed(long, int)", "int text()", "int whose(int)",
        "int promise(int)", "int sent(int)", "int effort(int, int)",
        "int order(int, int, int, int, int)", "int close(int, int)", "int look(int, boolean)",
        "int closings(int, int)", "int walk(int, int, int)", "int quarter(int, int)",
        "int sheet(int, int, int)", "int write(int, int, int)", "int copy(int, int, int, int, int)",
        "int read(int, int, int)", "int told(int)",
    };

    public static void main(String[] args) throws Exception {
        theFace();
        theMembers();
        String whole = Files.readString(Path.of(args[0]));
        theSource(whole);
        theHeadings(whole);
        whereObjectsAreMade(whole);
        CHECK.finish();
    }

    private static void theFace() {
        CHECK.due("public", Modifier.isPublic(TownAsks.class.getModifiers()) ? 1 : 0, 1);
        CHECK.due("final", Modifier.isFinal(TownAsks.class.getModifiers()) ? 1 : 0, 1);
        Set<String> want = new TreeSet<>(Set.of(FACE));
        Set<String> got = new TreeSet<>();
        for (Method m : TownAsks.class.getDeclaredMethods()) {
            if (!Modifier.isPrivate(m.getModifiers())) {
                StringBuilder row = new StringBuilder(m.getReturnType() + " " + m.getName() + "(");
                for (int i = 0; i < m.getParameterCount(); i++) {
                    row.append(i == 0 ? "" : ", ").append(m.getParameterTypes()[i]);
                }
                got.add(row.append(")").toString());
            }
        }
        CHECK.dueText("face", got.toString(), want.toString());
        Constructor<?>[] made = TownAsks.class.getDeclaredConstructors();
        CHECK.due("constructors", made.length, 1);
        CHECK.due("without arguments", made[0].getParameterCount(), 0);
        CHECK.due("public", Modifier.isPublic(made[0].getModifiers()) ? 1 : 0, 1);
    }

    private static void theMembers() {
        Set<String> face = new HashSet<>();
        for (String row : FACE) {
            face.add(row.substring(4, row.indexOf('(')));
        }
        for (Field f : TownAsks.class.getDeclaredFields()) {
            CHECK.due(f + " is private", Modifier.isPrivate(f.getModifiers()) ? 1 : 0, 1);
        }
        Class<?>[] inside = TownAsks.class.getDeclaredClasses();
        CHECK.due("classes, 12 at most", inside.length < 12 ? 1 : 0, 1);
        for (Method m : TownAsks.class.getDeclaredMethods()) {
            boolean hides = Modifier.isPrivate(m.getModifiers()) && face.contains(m.getName());
            CHECK.due(m + " has a name of the face", hides ? 1 : 0, 0);
        }
        for (Class<?> c : inside) {
            CHECK.due(c + " is static", Modifier.isStatic(c.getModifiers()) ? 1 : 0, 1);
            CHECK.due(c + " is public", Modifier.isPublic(c.getModifiers()) ? 1 : 0, 0);
            for (Method m : c.getDeclaredMethods()) {
                CHECK.due(m + " has a name of the face", face.contains(m.getName()) ? 1 : 0, 0);
                CHECK.due(m + " takes seven at most", m.getParameterCount() <= 7 ? 1 : 0, 1);
            }
            for (Field f : c.getDeclaredFields()) {
                int bits = f.getModifiers();
                boolean free = Modifier.isStatic(bits) && !Modifier.isFinal(bits);
                CHECK.due(f + " is static and not final", free ? 1 : 0, 0);
            }
        }
    }

    private static void theSource(String whole) {
        String source = whole.replaceAll("(?s)/\\*.*?\\*/", "").replaceAll("//[^\n]*", "");
        String[] ruledOut = {
            "throw", "throws", "try", "catch", "finally", "synchronized", "assert", "import",
            "package", "instanceof", "while", "hashCode", "toString", "equals",
        };
        for (String word : ruledOut) {
            boolean found = Pattern.compile("\\b" + word + "\\b").matcher(source).find();
            CHECK.due("the word " + word, found ? 1 : 0, 0);
        }
        CHECK.due("lambda or method reference", source.contains("->") || source.contains("::") ? 1 : 0, 0);
        Matcher library = Pattern.compile("\\b(Integer|Long|Math|System)\\.(\\w+)").matcher(source);
        Set<String> may = Set.of("Integer.bitCount", "Math.abs", "System.arraycopy");
        while (library.find()) {
            CHECK.due(library.group() + " is of the library", may.contains(library.group()) ? 1 : 0, 1);
        }
        for (int i = 0; i < whole.length(); i++) {
            if (whole.charAt(i) > 126) {
                CHECK.due("a sign above 126 at " + i, 1, 0);
            }
        }
    }

    /** "Ahead of the calls .. the interface says: ---- ..", with the calls in the document's order. */
    private static void theHeadings(String whole) {
        String want = "asks: ask marks meet of as fewest; things: thing asked;"
                + " desks: feed text whose promise sent; crews: effort order;"
                + " closed and looked at: close look closings; quarters: walk quarter;"
                + " sheets: sheet write copy read told;";
        StringBuilder got = new StringBuilder();
        Matcher row = Pattern.compile("(?m)^    (?:// ---- (.*)|public int (\\w+)\\(.*)$").matcher(whole);
        while (row.find()) {
            if (row.group(1) == null) {
                got.append(' ').append(row.group(2));
            } else {
                got.append(got.length() == 0 ? "" : "; ").append(row.group(1)).append(':');
            }
        }
        // What stands behind the last heading is the class's own, without any call of the face.
        String face = got.substring(0, Math.max(0, got.lastIndexOf(";")) + 1);
        CHECK.dueText("headings", face, want);
        CHECK.dueText("behind them", got.substring(face.length()), " what the acts share:");
    }

    /** All runs share one room, so rows are made with the object, in its constructor or beside fields. */
    private static void whereObjectsAreMade(String whole) {
        int from = whole.indexOf("    public TownAsks() {");
        int to = whole.indexOf("\n    }\n", from);
        String others = whole.substring(0, from) + whole.substring(to);
        for (String line : others.split("\n")) {
            boolean makes = Pattern.compile("\\bnew\\b[^;]*[\\[(]").matcher(line).find();
            boolean field = line.startsWith("        private final ");
            CHECK.due("made in a call: " + line.strip(), makes && !field ? 1 : 0, 0);
        }
    }
}
