import java.io.BufferedReader;
import java.io.IOException;
import java.nio.file.DirectoryStream;
import java.nio.file.Files;
import java.nio.file.Path;

/**
 * Replays the runs under src/test/runs, whose answers come from a model that was written apart from the program. A line
 * that begins with # makes a new object; each other one is a call, its arguments, and the answer that is due.
 */
public final class RunsTest {
    private RunsTest() {
    }

    public static void main(String[] args) throws IOException {
        try (DirectoryStream<Path> files = Files.newDirectoryStream(Path.of("src/test/runs"), "*.txt")) {
            for (Path file : files) {
                replay(file);
            }
        }
        Check.end();
    }

    private static void replay(Path file) throws IOException {
        try (BufferedReader lines = Files.newBufferedReader(file)) {
            CoinJudge judge = null;
            String run = "";
            int number = 0;
            for (String line = lines.readLine(); line != null; line = lines.readLine()) {
                number++;
                if (line.startsWith("#")) {
                    judge = new CoinJudge();
                    run = line;
                } else {
                    String[] words = line.split(" ");
                    String got = answer(judge, words);
                    boolean same = got.equals(words[words.length - 1]);
                    String what = same ? "" : file + ":" + number + " " + run + ": " + line + " answered " + got;
                    Check.same(what, same ? 1 : 0, 1);
                }
            }
        }
    }

    /** The answer to a call, as it is written in a run: of words, the first is its name, the last one is left alone. */
    static String answer(CoinJudge judge, String[] words) {
        long[] given = new long[words.length - 2];
        for (int i = 0; i < given.length; i++) {
            given[i] = Long.parseLong(words[i + 1]);
        }
        try {
            return call(judge, words[0], given);
        } catch (RuntimeException e) {
            return e.getClass().getSimpleName();
        }
    }

    private static String call(CoinJudge judge, String name, long[] given) {
        int[] a = new int[5];
        for (int i = 0; i < given.length; i++) {
            a[i] = (int) given[i];
        }
        switch (name) {
            case "feed":
                return "" + judge.feed(a[0], a[1], a[2], a[3], a[4]);
            case "end":
                return "" + judge.end(a[0]);
            case "patch":
                return "" + judge.patch(a[0], a[1]);
            case "key":
                return "" + judge.key(a[0], a[1]);
            case "digest":
                return "" + judge.digest(a[0]);
            case "open":
                judge.open(a[0], given[1]);
                return "void";
            case "tx":
                return "" + judge.tx(given[0], given[1]);
            case "input":
                return "" + judge.input(a[0], a[1], a[2], given[3]);
            case "output":
                return "" + judge.output(given[0]);
            case "push":
                return "" + judge.push(a[0]);
            case "sign":
                return "" + judge.sign(a[0], a[1], a[2]);
            case "seal":
                return "" + judge.seal(a[0]);
            case "judge":
                return "" + judge.judge();
            case "tell":
                return "" + judge.tell(a[0]);
            case "block":
                return "" + judge.block(a[0], a[1]);
            case "coin":
                return "" + judge.coin(a[0], a[1], a[2]);
            case "coins":
                return "" + judge.coins();
            case "word":
                return "" + judge.word(a[0]);
            default:
                return "no such call";
        }
    }
}
