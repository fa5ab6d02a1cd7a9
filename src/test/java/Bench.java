import java.util.ArrayList;
import java.util.Arrays;
import java.util.List;

/** A judge with short ways to make blocks on it; it remembers what blocks were kept. */
final class Bench {
    static final byte[] TRUE = Wire.hex("51");
    final CoinJudge judge = new CoinJudge();
    final List<byte[]> blocks = new ArrayList<>();
    private int made;

    Bench() {
        blocks.add(Wire.firstBlock());
    }

    /** A bench whose best chain has so many blocks above number 0, 600 seconds apart. */
    static Bench grown(int blocks) {
        Bench bench = new Bench();
        for (int i = 0; i < blocks; i++) {
            Check.same("a plain block", bench.add(bench.judge.tell(3)), 0);
        }
        return bench;
    }

    /** The tape is these bytes. */
    void tape(byte[] bytes) {
        judge.end(0);
        for (int at = 0; at < bytes.length; at += 20) {
            byte[] part = Arrays.copyOfRange(bytes, at, at + 20);
            judge.feed(high(part, 0), high(part, 4), high(part, 8), high(part, 12), high(part, 16));
        }
        judge.end(bytes.length);
    }

    void tape(String hex) {
        tape(Wire.hex(hex));
    }

    /** What the tape is. */
    byte[] tape() {
        byte[] out = new byte[judge.tell(0)];
        for (int i = 0; i < out.length; i++) {
            out[i] = (byte) (judge.word(i) >>> 56);
        }
        return out;
    }

    /** Judges these bytes: the answer, the reason with a minus, or -100 for the limit. */
    int judge(byte[] block) {
        tape(block);
        int kept = judge.tell(2);
        int answer;
        try {
            answer = judge.judge();
        } catch (UnsupportedOperationException e) {
            answer = -judge.tell(1);
        } catch (IndexOutOfBoundsException e) {
            answer = -100;
        }
        if (judge.tell(2) > kept) {
            blocks.add(block);
        }
        return answer;
    }

    byte[] hash(int b) {
        return Wire.hashOf(blocks.get(b));
    }

    long nextTime(int parent) {
        return judge.block(parent, 3) + 600;
    }

    int height(int b) {
        return (int) judge.block(b, 0);
    }

    /** A first transaction that no other block has, with all that it may take but fees. */
    Wire.Tx first(int parent) {
        made++;
        long reward = 5000000000L >> (height(parent) + 1) / 12;
        return Wire.firstTransaction(Wire.number(made, 3), reward);
    }

    /** The bits that are due on a parent, told by a seal. */
    long due(int parent) {
        judge.open(parent, 5000000);
        judge.seal(0);
        byte[] drawn = tape();
        return Wire.low(Arrays.copyOfRange(drawn, 72, 76)).longValue();
    }

    /** A block of these transactions behind a first one. */
    byte[] block(int parent, long time, Wire.Tx... others) {
        Wire.Tx[] all = new Wire.Tx[others.length + 1];
        all[0] = first(parent);
        System.arraycopy(others, 0, all, 1, others.length);
        return Wire.block(hash(parent), time, due(parent), all);
    }

    /** Judges such a block, 600 seconds behind its parent. */
    int add(int parent, Wire.Tx... others) {
        return judge(block(parent, nextTime(parent), others));
    }

    /** Judges a block of just these transactions. */
    int addAll(int parent, Wire.Tx... all) {
        return judge(Wire.block(hash(parent), nextTime(parent), due(parent), all));
    }

    private static int high(byte[] from, int at) {
        return from[at] << 24 | (from[at + 1] & 255) << 16 | (from[at + 2] & 255) << 8 | from[at + 3] & 255;
    }
}
