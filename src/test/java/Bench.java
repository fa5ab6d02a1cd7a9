import java.math.BigInteger;
import java.util.ArrayList;
import java.util.Arrays;
import java.util.List;

/**
 * A judge with short ways to make blocks on it. The bench reckons heights, times and bits that are due by itself, of
 * the blocks that were kept: what it asks of the judge is what a test looks at.
 */
final class Bench {
    static final byte[] TRUE = Wire.hex("51");
    static final byte[] EMPTY = new byte[0];
    /** The ID of the transaction of block 0, whose only output anyone may take. */
    static final byte[] COIN_0 = Wire.firstTransaction(Wire.hex("0000"), 5000000000L).id();
    /** What judge(byte[]) answers where the limit is reached. */
    static final int LIMIT = -100;
    private static final int FIRST_CONNECTED_REASON = 11;

    final Counted judge = new Counted();
    final List<byte[]> blocks = new ArrayList<>();
    private int made;

    Bench() {
        blocks.add(Wire.firstBlock());
    }

    /** A bench whose best chain has so many blocks above number 0, 600 seconds apart. */
    static Bench grown(int blocks) {
        Bench bench = new Bench();
        for (int i = 0; i < blocks; i++) {
            bench.grow(600);
        }
        return bench;
    }

    /** A plain block on the latest one, so many seconds later, by a draft: that takes but seven calls. */
    void grow(long seconds) {
        byte[] block = plain(seconds);
        draft(seconds);
        judge.seal(0);
        Check.same("a plain block", judge.judge(), 0);
        blocks.add(block);
    }

    /** The bytes of the block that grow would add. */
    byte[] plain(long seconds) {
        byte[] script = Wire.join(new byte[] {0, 0, 0, (byte) last()}, new byte[16]);
        Wire.Tx only = new Wire.Tx().in(Wire.NO_HASH, Wire.MOST, script, Wire.MOST).out(reward(last()), EMPTY);
        return Wire.block(hash(last()), time(last()) + seconds, due(last()), only);
    }

    /** The draft of that block. */
    void draft(long seconds) {
        judge.open(last(), time(last()) + seconds);
        judge.tx(1, 0);
        judge.feed(last(), 0, 0, 0, 0);
        judge.input(-1, 0, 0, Wire.MOST);
        judge.output(reward(last()));
    }

    /** The answer to a block that makes an output of one script and spends it by the other: 0, or -14. */
    static int spend(byte[] script, byte[] lock, long lockTime, long sequence) {
        Bench bench = grown(3);
        Wire.Tx maker = new Wire.Tx().in(COIN_0, 0, EMPTY, Wire.MOST).out(1, lock);
        Wire.Tx spender = new Wire.Tx().in(maker.id(), 0, script, sequence).out(1, TRUE);
        spender.lock = lockTime;
        return bench.add(3, maker, spender);
    }

    /** What an output has whose spender pushes this script. */
    static byte[] lockOf(byte[] inner) {
        Bench bench = new Bench();
        bench.tape(inner);
        bench.judge.digest(2);
        return Wire.join(Wire.hex("a914"), bench.tape(), Wire.hex("87"));
    }

    /** The tape is these bytes. */
    void tape(byte[] bytes) {
        judge.end(0);
        for (int at = 0; at < bytes.length; at += 20) {
            byte[] part = Arrays.copyOfRange(bytes, at, at + 20);
            judge.feed(high(part, 0), high(part, 4), high(part, 8), high(part, 12), high(part, 16));
        }
        if (bytes.length % 20 != 0) {
            judge.end(bytes.length);
        }
    }

    void tape(String hex) {
        tape(Wire.hex(hex));
    }

    /** What the tape is. */
    byte[] tape() {
        byte[] out = new byte[judge.tell(0)];
        for (int i = 0; i < out.length; i += 8) {
            long word = judge.word(i);
            for (int k = i; k < i + 8 && k < out.length; k++) {
                out[k] = (byte) (word >>> 56 - 8 * (k - i));
            }
        }
        return out;
    }

    /** All that the judge tells of itself, of long tapes a digest, and the draft as it is sealed; the tape is lost. */
    String state() {
        StringBuilder all = new StringBuilder("told");
        for (int what = 0; what <= 6; what++) {
            all.append(' ').append(judge.tell(what));
        }
        judge.digest(3);
        all.append(" tape ").append(Wire.hex(tape())).append(" coins ").append(judge.coins()).append(" blocks");
        for (int b = 0; b < judge.tell(2); b++) {
            all.append(' ').append(judge.block(b, 1)).append('/').append(judge.block(b, 2));
        }
        try {
            judge.seal(0);
            all.append(" draft ").append(Wire.hex(tape()));
        } catch (IndexOutOfBoundsException e) {
            all.append(" draft too long");
        }
        return all.toString();
    }

    /** Judges these bytes: the answer, the reason with a minus, or LIMIT. */
    int judge(byte[] block) {
        tape(block);
        int answer;
        try {
            answer = judge.judge();
        } catch (UnsupportedOperationException e) {
            answer = -judge.tell(1);
        } catch (IndexOutOfBoundsException e) {
            answer = LIMIT;
        }
        if (answer >= 0 && answer < 3 || answer != LIMIT && answer <= -FIRST_CONNECTED_REASON) {
            blocks.add(block);
        }
        return answer;
    }

    /** The number of the block that was kept last. */
    int last() {
        return blocks.size() - 1;
    }

    byte[] hash(int b) {
        return Wire.hashOf(blocks.get(b));
    }

    long time(int b) {
        return Wire.low(Arrays.copyOfRange(blocks.get(b), 68, 72)).longValue();
    }

    long bits(int b) {
        return Wire.low(Arrays.copyOfRange(blocks.get(b), 72, 76)).longValue();
    }

    /** The ID of the only transaction of a block. */
    byte[] id(int b) {
        return Wire.twice(Arrays.copyOfRange(blocks.get(b), 81, blocks.get(b).length));
    }

    int parent(int b) {
        byte[] above = Arrays.copyOfRange(blocks.get(b), 4, 36);
        int parent = b - 1;
        while (parent >= 0 && !Arrays.equals(hash(parent), above)) {
            parent--;
        }
        return parent;
    }

    int height(int b) {
        return b == 0 ? 0 : 1 + height(parent(b));
    }

    long nextTime(int parent) {
        return time(parent) + 600;
    }

    /** What a first transaction may take on a parent, without fees. */
    long reward(int parent) {
        return 5000000000L >> (height(parent) + 1) / 12;
    }

    /** A first transaction that no other block has, with all that it may take but fees. */
    Wire.Tx first(int parent) {
        made++;
        return Wire.firstTransaction(Wire.number(made, 3), reward(parent));
    }

    /** The bits that are due on a parent. */
    long due(int parent) {
        if ((height(parent) + 1) % 8 != 0) {
            return bits(parent);
        }
        int first = parent;
        for (int i = 0; i < 7; i++) {
            first = parent(first);
        }
        return dueAfter(bits(parent), time(parent) - time(first));
    }

    static long dueAfter(long bits, long span) {
        long bounded = Math.max(1200, Math.min(19200, span));
        BigInteger target = Wire.target(bits).multiply(BigInteger.valueOf(bounded)).divide(BigInteger.valueOf(4800));
        return Wire.bits(target.min(Wire.target(Wire.EASIEST)));
    }

    /** The bits that are due on a parent, told by a seal; the tape is empty then. */
    long sealedBits(int parent) {
        judge.open(parent, 5000000);
        judge.seal(0);
        int turned = (int) (judge.word(72) >>> 32);
        judge.end(0);
        return Integer.reverseBytes(turned) & Wire.MOST;
    }

    /** A block of these transactions behind a first one. */
    byte[] block(int parent, long time, Wire.Tx... others) {
        Wire.Tx[] all = new Wire.Tx[others.length + 1];
        all[0] = first(parent);
        System.arraycopy(others, 0, all, 1, others.length);
        return Wire.block(hash(parent), time, due(parent), all);
    }

    /** Judges such a block, 600 seconds behind its parent. */
    int add(int parent, Wire.Tx... others) {
        return judge(block(parent, nextTime(parent), others));
    }

    /** Judges a block of just these transactions. */
    int addAll(int parent, Wire.Tx... all) {
        return judge(Wire.block(hash(parent), nextTime(parent), due(parent), all));
    }

    private static int high(byte[] from, int at) {
        return from[at] << 24 | (from[at + 1] & 255) << 16 | (from[at + 2] & 255) << 8 | from[at + 3] & 255;
    }
}
