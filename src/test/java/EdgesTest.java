import java.io.IOException;
import java.nio.file.Files;
import java.nio.file.Path;
import java.util.regex.Matcher;
import java.util.regex.Pattern;

/** The tests that src/test/EDGES.md names are there. */
public final class EdgesTest {
    private static final Pattern NAMED = Pattern.compile("\\b(\\w+Test)\\.(\\w+)");

    private EdgesTest() {
    }

    public static void main(String[] args) throws IOException {
        Matcher named = NAMED.matcher(Files.readString(Path.of("src/test/EDGES.md")));
        while (named.find()) {
            Path file = Path.of("src/test/java", named.group(1) + ".java");
            boolean there = Files.exists(file) && has(Files.readString(file), named.group(2));
            Check.same("there is " + named.group(), there ? 1 : 0, 1);
        }
        Check.end();
    }

    /** A method of this name that is called, or main itself. */
    private static boolean has(String source, String name) {
        boolean made = Pattern.compile("(?m)^ {4}(public|private) static \\w+ " + name + "\\(").matcher(source).find();
        boolean called = source.split("\\b" + name + "\\(").length > 2;
        return made && (called || name.equals("main"));
    }
}
