import java.lang.reflect.Method;
import java.lang.reflect.Modifier;
import java.net.URL;
import java.net.URLClassLoader;
import java.nio.file.Files;
import java.nio.file.Path;
import java.util.List;
import java.util.Map;
import java.util.Set;
import java.util.TreeSet;
import java.util.function.LongSupplier;
import java.util.regex.Matcher;
import java.util.regex.Pattern;

/**
 * The examples of README.md: each call shown there is made, and answers or throws what is shown
 * behind it. The examples are written to a class of their own, for they must be Java as they stand.
 */
public final class ReadmeTest {
    private static final Path README = Path.of("README.md");
    private static final String EXAMPLES = "ReadmeExamples";
    private static final String THROWS = "throws ";
    private static final Pattern CALL = Pattern.compile("(m\\.(\\w+)\\(.*\\));(?:\\s*//\\s*(.*?)(?::\\s.*)?)?");
    private static final Map<String, Integer> KINDS = Map.of("NoSuchElementException", Check.NO_SUCH_ELEMENT,
        "IndexOutOfBoundsException", Check.OUT_OF_BOUNDS, "IllegalArgumentException", Check.ILLEGAL_ARGUMENT);

    private static final StringBuilder members = new StringBuilder();
    private static final StringBuilder calls = new StringBuilder();
    private static final Set<String> shown = new TreeSet<>();
    private static int examples = 0;

    /** The classes of the examples can use no more of the tests than what is public here. */
    public static void due(String what, LongSupplier call, long want) {
        long[] got = new long[1];
        int thrown = Check.thrownBy(() -> got[0] = call.getAsLong());
        Check.due(what + " throws", thrown, Check.NOTHING);
        if (thrown == Check.NOTHING) {
            Check.due(what, got[0], want);
        }
    }

    public static void dueThrow(String what, String exception, Runnable call) {
        Check.dueThrow(what, KINDS.getOrDefault(exception, Check.OTHER), call::run);
    }

    private static String quoted(String text) {
        return '"' + text.replace("\\", "\\\\").replace("\"", "\\\"") + '"';
    }

    /** A call with what is shown behind it, as a question; all else as it stands. */
    private static String asked(int number, String line) {
        Matcher call = CALL.matcher(line);
        if (!call.matches()) {
            return line;
        }
        String what = "README.md, line " + number + ": " + call.group(1);
        String want = call.group(3);
        Check.due(what + " has an answer shown behind it", want == null ? 0 : 1, 1);
        if (want == null) {
            return "";
        }
        if (want.startsWith(THROWS)) {
            shown.add(call.group(2) + " " + want);
            return "ReadmeTest.dueThrow(" + quoted(what) + ", " + quoted(want.substring(THROWS.length())) + ", () -> "
                + call.group(1) + ");";
        }
        shown.add(call.group(2));
        return "ReadmeTest.due(" + quoted(what) + ", () -> " + call.group(1) + ", " + want + ");";
    }

    /** One block of Java from the line at first on: a method that the others use, or an example. */
    private static int block(List<String> lines, int first) {
        boolean isMember = lines.get(first).startsWith("static ");
        StringBuilder text = isMember ? members : calls;
        if (!isMember) {
            examples++;
            text.append("public static void example").append(examples).append("() {\n");
        }
        int i = first;
        while (i < lines.size() && !lines.get(i).equals("```")) {
            text.append(isMember ? lines.get(i) : asked(i + 1, lines.get(i))).append('\n');
            i++;
        }
        text.append(isMember ? "\n" : "}\n\n");
        return i;
    }

    private static void read(List<String> lines) {
        for (int i = 0; i < lines.size(); i++) {
            if (lines.get(i).equals("```java")) {
                i = block(lines, i + 1);
            }
        }
        Check.due("README.md has examples", examples > 0 ? 1 : 0, 1);
    }

    private static void run(Path place) throws Exception {
        Path source = place.resolve(EXAMPLES + ".java");
        Files.writeString(source, "public final class " + EXAMPLES + " {\n" + members + calls + "}\n");
        int end = new ProcessBuilder("javac", "--release", "17", "-encoding", "UTF-8", "-d", place.toString(),
            "-classpath", System.getProperty("java.class.path"), source.toString()).inheritIO().start().waitFor();
        Check.due("javac of the examples", end, 0);
        if (end == 0) {
            try (URLClassLoader loader = new URLClassLoader(new URL[] {place.toUri().toURL()})) {
                Class<?> all = loader.loadClass(EXAMPLES);
                for (int i = 1; i <= examples; i++) {
                    all.getMethod("example" + i).invoke(null);
                }
            }
        }
        for (String name : new String[] {EXAMPLES + ".java", EXAMPLES + ".class"}) {
            Files.deleteIfExists(place.resolve(name));
        }
    }

    /** Each call of the face is shown, and each exception that it names. */
    private static void wholeFace(List<String> lines) {
        for (Method method : MixBench.class.getDeclaredMethods()) {
            if (Modifier.isPublic(method.getModifiers())) {
                String name = method.getName();
                String heading = "### `" + method.getReturnType() + " " + name + "(";
                boolean isThere = lines.stream().anyMatch(line -> line.startsWith(heading));
                Check.due("README.md tells of " + name, isThere ? 1 : 0, 1);
                Check.due("README.md shows what " + name + " answers", shown.contains(name) ? 1 : 0, 1);
                for (Class<?> exception : method.getExceptionTypes()) {
                    String thrown = name + " " + THROWS + exception.getSimpleName();
                    Check.due("README.md shows that " + thrown, shown.contains(thrown) ? 1 : 0, 1);
                }
            }
        }
    }

    public static void main(String[] args) throws Exception {
        List<String> lines = Files.readAllLines(README);
        read(lines);
        Path place = Files.createTempDirectory("readme");
        run(place);
        Files.delete(place);
        wholeFace(lines);
        Check.end("ReadmeTest");
    }
}
