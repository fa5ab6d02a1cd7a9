import java.io.IOException;
import java.nio.file.Files;
import java.nio.file.Path;

/**
 * Judges the blocks of src/test/blocks/scripts.txt, of scripts and signatures that were made by chance. What is due of
 * their scripts was told by a library of others (python-bitcoinlib 0.11.2, with OpenSSL for the signatures), so this
 * looks at the program apart from how its author reads the document. A line that begins with # makes a new object; each
 * other one is a block and the answer that is due, a reason with a minus.
 */
public final class BlocksTest {
    private BlocksTest() {
    }

    public static void main(String[] args) throws IOException {
        Bench bench = new Bench();
        int number = 0;
        for (String line : Files.readAllLines(Path.of("src/test/blocks/scripts.txt"))) {
            number++;
            if (line.startsWith("#")) {
                bench = new Bench();
            } else {
                String[] words = line.split(" ");
                Check.same("line " + number, bench.judge(Wire.hex(words[0])), Long.parseLong(words[1]));
            }
        }
        Check.end();
    }
}
