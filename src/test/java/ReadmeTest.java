import java.io.IOException;
import java.nio.file.Files;
import java.nio.file.Path;
import java.util.ArrayList;
import java.util.List;
import java.util.regex.Matcher;
import java.util.regex.Pattern;

/** The calls that README.md shows, with the answers that stand behind them. */
public final class ReadmeTest {
    private static final Pattern CALL = Pattern.compile("judge\\.(\\w+)\\(([^)]*)\\);(?: *// ([\\w-]+).*)?");
    /** Those of the face, but for the constructor. */
    private static final List<String> CALLS = List.of("feed", "end", "patch", "key", "digest", "open", "tx", "input",
            "output", "push", "sign", "seal", "judge", "tell", "block", "coin", "coins", "word");

    private ReadmeTest() {
    }

    public static void main(String[] args) throws IOException {
        List<String> lines = Files.readAllLines(Path.of("README.md"));
        everyCallIsTold(String.join("\n", lines));
        answersAsShown(lines);
        Check.end();
    }

    private static void everyCallIsTold(String text) {
        for (String call : CALLS) {
            Check.same("README.md tells of " + call, text.contains("`" + call + "`") ? 1 : 0, 1);
        }
    }

    private static void answersAsShown(List<String> lines) {
        CoinJudge judge = null;
        int shown = 0;
        for (String line : lines) {
            Matcher call = CALL.matcher(line);
            if (line.equals("CoinJudge judge = new CoinJudge();")) {
                judge = new CoinJudge();
            } else if (call.matches()) {
                List<String> words = words(call);
                String due = words.get(words.size() - 1);
                Check.same(line, RunsTest.answer(judge, words.toArray(new String[0])), due);
                shown++;
            }
        }
        Check.same("calls are shown", shown > 0 ? 1 : 0, 1);
    }

    /** The call as runs are written: its name, its arguments, and what is due. */
    private static List<String> words(Matcher call) {
        List<String> words = new ArrayList<>();
        words.add(call.group(1));
        if (!call.group(2).isEmpty()) {
            for (String argument : call.group(2).split(", ")) {
                words.add("" + Long.decode(argument.replace("L", "")));
            }
        }
        words.add(call.group(1).equals("open") ? "void" : String.valueOf(call.group(3)));
        return words;
    }
}
