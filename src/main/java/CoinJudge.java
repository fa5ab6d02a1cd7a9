import java.util.Arrays;

/**
 * A judge of blocks after Bitcoin's rules, without SegWit and Taproot.
 *
 * <p>The rows that a call needs are made in the constructors and used again: a long run of calls
 * makes hardly any new object but the blocks that it keeps. The promises are told in DOC.md.
 */
public final class CoinJudge {
    private static final int TAPE_LIMIT = 1600;
    private static final int MOST_KEPT = 60;
    private static final int MOST_TRANSACTIONS = 12;
    private static final int MOST_DRAFT_ROWS = 6;
    private static final int DRAFT_SCRIPT = 600;
    private static final int SIGNED_SCRIPT = 500;
    private static final int EASIEST = 0x207FFFFF;
    private static final int MOST_NONCES = 4096;
    private static final long MOST_UNSIGNED = 0xFFFFFFFFL;
    private static final long MOST_VALUE = 2100000000000000L;
    private static final long FIRST_REWARD = 5000000000L;
    private static final long FIRST_TIME = 1000000L;
    private static final long FIRST_DRAFT_TIME = 1000600L;
    private static final int ANSWER_KNOWN = 3;
    private static final int ANSWER_UNKNOWN = 4;
    /** What an inspection answers where there is no reason to refuse; reasons are above 0. */
    private static final int KNOWN = -1;
    private static final int UNKNOWN = -2;
    /** A draft's transaction may be longer than any tape: twelve scripts of 600 bytes. */
    private static final int WIDE = 8000;

    private final Buffer tape = new Buffer(TAPE_LIMIT);
    private final Buffer drawn = new Buffer(TAPE_LIMIT);
    private final Buffer wide = new Buffer(WIDE);
    private final Hasher hasher = new Hasher();
    private final Curve curve = new Curve();
    private final TxView view = new TxView();
    private final Machine machine = new Machine(hasher, curve);
    private final Chain chain = new Chain(hasher, machine, view);
    private final DraftTx[] drafts = new DraftTx[MOST_TRANSACTIONS];
    private final byte[] ids = new byte[32 * MOST_TRANSACTIONS];
    private final byte[] row = new byte[32];
    private final byte[] zeros = new byte[32];
    private int draftCount;
    private int draftParent;
    private long draftTime;
    private int reason;

    public CoinJudge() {
        for (int i = 0; i < MOST_TRANSACTIONS; i++) {
            drafts[i] = new DraftTx();
        }
        keepFirstBlock();
        draftCount = 0;
        draftTime = FIRST_DRAFT_TIME;
    }

    public int feed(int a, int b, int c, int d, int e) throws IndexOutOfBoundsException {
        if (tape.length + 20 > TAPE_LIMIT) {
            throw new IndexOutOfBoundsException();
        }
        tape.addHighFirst(a);
        tape.addHighFirst(b);
        tape.addHighFirst(c);
        tape.addHighFirst(d);
        tape.addHighFirst(e);
        return tape.length;
    }

    public int end(int n) throws IllegalArgumentException {
        if (n < 0 || n > tape.length) {
            throw new IllegalArgumentException();
        }
        tape.length = n;
        return n;
    }

    public int patch(int i, int v) throws IllegalArgumentException {
        if (i < 0 || i >= tape.length) {
            throw new IllegalArgumentException();
        }
        int before = tape.bytes[i] & 255;
        tape.bytes[i] = (byte) v;
        return before;
    }

    public int key(int n, int form) throws IllegalArgumentException, IndexOutOfBoundsException {
        if (n < 1 || form < 0 || form > 2) {
            throw new IllegalArgumentException();
        }
        int size = form == 0 ? 33 : form == 1 ? 65 : 20;
        if (tape.length + size > TAPE_LIMIT) {
            throw new IndexOutOfBoundsException();
        }
        wide.clear();
        curve.writeKey(n, form == 1, wide);
        if (form == 2) {
            hasher.hash160(wide.bytes, 0, wide.length, wide.bytes, 0);
        }
        tape.addBytes(wide.bytes, 0, size);
        return tape.length;
    }

    public int digest(int what) throws IllegalArgumentException {
        if (what < 0 || what > 3) {
            throw new IllegalArgumentException();
        }
        byte[] bytes = tape.bytes;
        if (what == 0) {
            hasher.sha(bytes, 0, tape.length, bytes, 0);
        } else if (what == 1) {
            hasher.ripe(bytes, 0, tape.length, bytes, 0);
        } else if (what == 2) {
            hasher.hash160(bytes, 0, tape.length, bytes, 0);
        } else {
            hasher.twice(bytes, 0, tape.length, bytes, 0);
        }
        tape.length = what == 0 || what == 3 ? 32 : 20;
        return tape.length;
    }

    public void open(int parent, long time) throws IllegalArgumentException {
        if (parent < -1 || parent >= chain.kept || isNotUnsigned(time)) {
            throw new IllegalArgumentException();
        }
        draftParent = parent < 0 ? chain.best : parent;
        draftTime = time;
        draftCount = 0;
    }

    public int tx(long version, long lock) throws IllegalArgumentException, IndexOutOfBoundsException {
        if (isNotUnsigned(version) || isNotUnsigned(lock)) {
            throw new IllegalArgumentException();
        }
        if (draftCount == MOST_TRANSACTIONS) {
            throw new IndexOutOfBoundsException();
        }
        drafts[draftCount].begin(version, lock);
        draftCount++;
        return draftCount;
    }

    public int input(int b, int t, int o, long sequence)
            throws IllegalArgumentException, IllegalStateException, IndexOutOfBoundsException {
        if (isNotUnsigned(sequence) || b < -2 || b != -1 && !hasTransaction(b, t)) {
            throw new IllegalArgumentException();
        }
        if (draftCount == 0) {
            throw new IllegalStateException();
        }
        DraftTx latest = drafts[draftCount - 1];
        if (latest.inputs == MOST_DRAFT_ROWS || tape.length > DRAFT_SCRIPT) {
            throw new IndexOutOfBoundsException();
        }
        if (b == -1) {
            latest.addInput(zeros, 0, -1, sequence, tape);
        } else if (b == -2) {
            nameDraft(t, row, 0);
            latest.addInput(row, 0, o, sequence, tape);
        } else {
            latest.addInput(chain.blocks[b].ids, 32 * t, o, sequence, tape);
        }
        tape.clear();
        return latest.inputs;
    }

    public int output(long value) throws IllegalStateException, IndexOutOfBoundsException {
        if (draftCount == 0) {
            throw new IllegalStateException();
        }
        DraftTx latest = drafts[draftCount - 1];
        if (latest.outputs == MOST_DRAFT_ROWS || tape.length > DRAFT_SCRIPT) {
            throw new IndexOutOfBoundsException();
        }
        latest.addOutput(value, tape);
        tape.clear();
        return latest.outputs;
    }

    public int push(int i)
            throws IllegalArgumentException, IllegalStateException, IndexOutOfBoundsException {
        if (draftCount == 0) {
            throw new IllegalStateException();
        }
        DraftTx latest = drafts[draftCount - 1];
        if (i < 0 || i >= latest.inputs) {
            throw new IllegalArgumentException();
        }
        if (latest.size[i] + DraftTx.pushSize(tape.length) > DRAFT_SCRIPT) {
            throw new IndexOutOfBoundsException();
        }
        latest.addPush(i, tape);
        tape.clear();
        return latest.size[i];
    }

    public int sign(int i, int n, int type)
            throws IllegalArgumentException, IllegalStateException, IndexOutOfBoundsException {
        if (draftCount == 0) {
            throw new IllegalStateException();
        }
        DraftTx latest = drafts[draftCount - 1];
        if (i < 0 || i >= latest.inputs || n < 1 || type < 0 || type > 255) {
            throw new IllegalArgumentException();
        }
        if (latest.size[i] > SIGNED_SCRIPT) {
            throw new IndexOutOfBoundsException();
        }
        wide.clear();
        latest.write(wide);
        view.read(wide.bytes, 0, wide.length);
        machine.cleanCode(tape.bytes, 0, tape.length, 0);
        machine.nameSigned(view, i, type);
        curve.writeSignature(n, type, machine.signed, hasher, tape);
        latest.addPush(i, tape);
        tape.clear();
        return latest.size[i];
    }

    public int seal(int spoil) throws IllegalArgumentException, IndexOutOfBoundsException {
        if (spoil < 0 || spoil > 5) {
            throw new IllegalArgumentException();
        }
        int due = chain.dueBits(draftParent);
        draw(spoil, chain.blocks[draftParent].hash, due);
        if (drawn.over) {
            throw new IndexOutOfBoundsException();
        }
        findNonce(due, spoil != 3);
        tape.clear();
        tape.addBytes(drawn.bytes, 0, drawn.length);
        return tape.length;
    }

    public int judge() throws UnsupportedOperationException, IndexOutOfBoundsException {
        int verdict = chain.inspect(tape);
        tape.clear();
        if (verdict == KNOWN) {
            return ANSWER_KNOWN;
        }
        if (verdict == UNKNOWN) {
            return ANSWER_UNKNOWN;
        }
        if (verdict != 0) {
            reason = verdict;
            throw new UnsupportedOperationException();
        }
        if (chain.kept == MOST_KEPT) {
            throw new IndexOutOfBoundsException();
        }
        int fresh = chain.keep();
        if (chain.blocks[fresh].work <= chain.blocks[chain.best].work) {
            return 1;
        }
        for (int i = chain.climb(fresh) - 1; i >= 0; i--) {
            int refused = chain.connect(chain.path[i]);
            if (refused != 0) {
                chain.spoil(chain.path[i]);
                reason = refused;
                throw new UnsupportedOperationException();
            }
        }
        int before = chain.best;
        chain.best = fresh;
        return chain.blocks[fresh].parent == before ? 0 : 2;
    }

    public int tell(int what) throws IllegalArgumentException {
        switch (what) {
            case 0:
                return tape.length;
            case 1:
                return reason;
            case 2:
                return chain.kept;
            case 3:
                return chain.best;
            case 4:
                return chain.blocks[chain.best].height;
            case 5:
                return chain.blocks[chain.best].coinRow.length;
            case 6:
                return draftCount;
            default:
                throw new IllegalArgumentException();
        }
    }

    public long block(int b, int what) throws IllegalArgumentException {
        if (b < 0 || b >= chain.kept) {
            throw new IllegalArgumentException();
        }
        Block told = chain.blocks[b];
        switch (what) {
            case 0:
                return told.height;
            case 1:
                return told.parent;
            case 2:
                return chain.standing(b);
            case 3:
                return told.time();
            case 4:
                return told.bits() & MOST_UNSIGNED;
            case 5:
                return told.count;
            case 6:
                return told.length;
            case 7:
                return told.work;
            case 8:
                return chain.middle(b);
            default:
                throw new IllegalArgumentException();
        }
    }

    public long coin(int b, int t, int o) throws IllegalArgumentException {
        if (b < 0 || !hasTransaction(b, t)) {
            throw new IllegalArgumentException();
        }
        return chain.valueOf(chain.blocks[b].ids, 32 * t, o);
    }

    public long coins() {
        return chain.allValues();
    }

    public long word(int i) throws IndexOutOfBoundsException {
        if (i < 0 || i >= tape.length) {
            throw new IndexOutOfBoundsException();
        }
        long word = 0;
        for (int k = 0; k < 8; k++) {
            word = word << 8 | (i + k < tape.length ? tape.bytes[i + k] & 255 : 0);
        }
        return word;
    }

    private static boolean isNotUnsigned(long value) {
        return value < 0 || value > MOST_UNSIGNED;
    }

    /** Whether block b, or the draft for -2, has a transaction t. */
    private boolean hasTransaction(int b, int t) {
        if (t < 0 || b >= chain.kept) {
            return false;
        }
        return t < (b < 0 ? draftCount : chain.blocks[b].count);
    }

    private void nameDraft(int t, byte[] out, int at) {
        wide.clear();
        drafts[t].write(wide);
        hasher.twice(wide.bytes, 0, wide.length, out, at);
    }

    /** Block 0 is sealed as a draft is, so that it is read as all others are. */
    private void keepFirstBlock() {
        drafts[0].begin(1, 0);
        tape.addNumber(0, 2);
        drafts[0].addInput(zeros, 0, -1, MOST_UNSIGNED, tape);
        tape.clear();
        tape.addNumber(81, 1);
        drafts[0].addOutput(FIRST_REWARD, tape);
        tape.clear();
        draftCount = 1;
        draftTime = FIRST_TIME;
        draw(0, zeros, EASIEST);
        findNonce(EASIEST, true);
        chain.keepFirst(drawn);
    }

    /** Writes the draft as a block, its nonce still 0. */
    private void draw(int spoil, byte[] parentHash, int due) {
        for (int t = 0; t < draftCount; t++) {
            nameDraft(t, ids, 32 * t);
        }
        hasher.root(ids, draftCount, row);
        if (spoil == 1) {
            row[0]++;
        }
        drawn.clear();
        drawn.addNumber(spoil == 4 ? 2 : 1, 4);
        drawn.addBytes(spoil == 5 ? zeros : parentHash, 0, 32);
        drawn.addBytes(row, 0, 32);
        drawn.addNumber(draftTime, 4);
        drawn.addNumber(spoil == 2 ? due - 1 : due, 4);
        drawn.addNumber(0, 4);
        drawn.addCount(draftCount);
        for (int t = 0; t < draftCount; t++) {
            wide.clear();
            drafts[t].write(wide);
            drawn.addBytes(wide.bytes, 0, wide.length);
        }
    }

    /** The last nonce that was tried stays, which is 4095 where none does. */
    private void findNonce(int due, boolean reached) {
        Target target = chain.target;
        target.take(due);
        for (int nonce = 0; nonce < MOST_NONCES; nonce++) {
            drawn.bytes[76] = (byte) nonce;
            drawn.bytes[77] = (byte) (nonce >>> 8);
            hasher.twice(drawn.bytes, 0, 80, row, 0);
            if (target.isReachedBy(row) == reached) {
                return;
            }
        }
    }

    /** Bytes up to a limit; what would go beyond it is left out, and remembered as over. */
    private static final class Buffer {
        final byte[] bytes;
        int length;
        boolean over;

        Buffer(int limit) {
            bytes = new byte[limit];
        }

        /** The number of so many bytes, the lowest first. */
        static long number(byte[] from, int at, int size) {
            long value = 0;
            for (int i = size - 1; i >= 0; i--) {
                value = value << 8 | from[at + i] & 255;
            }
            return value;
        }

        void clear() {
            length = 0;
            over = false;
        }

        void addNumber(long value, int size) {
            if (size > bytes.length - length) {
                over = true;
                return;
            }
            for (int i = 0; i < size; i++) {
                bytes[length + i] = (byte) (value >>> 8 * i);
            }
            length += size;
        }

        void addHighFirst(int value) {
            addNumber(value >>> 24 & 255 | value >>> 8 & 0xFF00 | value << 8 & 0xFF0000 | value << 24, 4);
        }

        /** A COUNT; nothing that is written here has 65536 of anything. */
        void addCount(int count) {
            int size = count < 253 ? 1 : 3;
            if (size > bytes.length - length) {
                over = true;
                return;
            }
            if (size == 1) {
                bytes[length] = (byte) count;
            } else {
                bytes[length] = (byte) 253;
                bytes[length + 1] = (byte) count;
                bytes[length + 2] = (byte) (count >>> 8);
            }
            length += size;
        }

        void addBytes(byte[] from, int at, int count) {
            if (count > bytes.length - length) {
                over = true;
                return;
            }
            System.arraycopy(from, at, bytes, length, count);
            length += count;
        }
    }

    /** SHA-256 and RIPEMD-160, and what is made of them. Results may be written over what is read. */
    private static final class Hasher {
        private static final int[] SHA_START = {
            0x6a09e667, 0xbb67ae85, 0x3c6ef372, 0xa54ff53a, 0x510e527f, 0x9b05688c, 0x1f83d9ab, 0x5be0cd19};
        private static final int[] SHA_WORDS = {
            0x428a2f98, 0x71374491, 0xb5c0fbcf, 0xe9b5dba5, 0x3956c25b, 0x59f111f1, 0x923f82a4, 0xab1c5ed5,
            0xd807aa98, 0x12835b01, 0x243185be, 0x550c7dc3, 0x72be5d74, 0x80deb1fe, 0x9bdc06a7, 0xc19bf174,
            0xe49b69c1, 0xefbe4786, 0x0fc19dc6, 0x240ca1cc, 0x2de92c6f, 0x4a7484aa, 0x5cb0a9dc, 0x76f988da,
            0x983e5152, 0xa831c66d, 0xb00327c8, 0xbf597fc7, 0xc6e00bf3, 0xd5a79147, 0x06ca6351, 0x14292967,
            0x27b70a85, 0x2e1b2138, 0x4d2c6dfc, 0x53380d13, 0x650a7354, 0x766a0abb, 0x81c2c92e, 0x92722c85,
            0xa2bfe8a1, 0xa81a664b, 0xc24b8b70, 0xc76c51a3, 0xd192e819, 0xd6990624, 0xf40e3585, 0x106aa070,
            0x19a4c116, 0x1e376c08, 0x2748774c, 0x34b0bcb5, 0x391c0cb3, 0x4ed8aa4a, 0x5b9cca4f, 0x682e6ff3,
            0x748f82ee, 0x78a5636f, 0x84c87814, 0x8cc70208, 0x90befffa, 0xa4506ceb, 0xbef9a3f7, 0xc67178f2};
        private static final int[] RIPE_START = {0x67452301, 0xefcdab89, 0x98badcfe, 0x10325476, 0xc3d2e1f0};
        private static final int[] RIPE_WORDS = {
            0, 0x5a827999, 0x6ed9eba1, 0x8f1bbcdc, 0xa953fd4e, 0x50a28be6, 0x5c4dd124, 0x6d703ef3, 0x7a6d76e9, 0};
        /** The order of the words on both sides, five rounds of sixteen each. */
        private static final int[] RIPE_ORDER = {
            0, 1, 2, 3, 4, 5, 6, 7, 8, 9, 10, 11, 12, 13, 14, 15,
            7, 4, 13, 1, 10, 6, 15, 3, 12, 0, 9, 5, 2, 14, 11, 8,
            3, 10, 14, 4, 9, 15, 8, 1, 2, 7, 0, 6, 13, 11, 5, 12,
            1, 9, 11, 10, 0, 8, 12, 4, 13, 3, 7, 15, 14, 5, 6, 2,
            4, 0, 5, 9, 7, 12, 2, 10, 14, 1, 3, 8, 11, 6, 15, 13,
            5, 14, 7, 0, 9, 2, 11, 4, 13, 6, 15, 8, 1, 10, 3, 12,
            6, 11, 3, 7, 0, 13, 5, 10, 14, 15, 8, 12, 4, 9, 1, 2,
            15, 5, 1, 3, 7, 14, 6, 9, 11, 8, 12, 2, 10, 0, 4, 13,
            8, 6, 4, 1, 3, 11, 15, 0, 5, 12, 2, 13, 9, 7, 10, 14,
            12, 15, 10, 4, 1, 5, 8, 7, 6, 2, 13, 14, 0, 3, 9, 11};
        private static final int[] RIPE_TURNS = {
            11, 14, 15, 12, 5, 8, 7, 9, 11, 13, 14, 15, 6, 7, 9, 8,
            7, 6, 8, 13, 11, 9, 7, 15, 7, 12, 15, 9, 11, 7, 13, 12,
            11, 13, 6, 7, 14, 9, 13, 15, 14, 8, 13, 6, 5, 12, 7, 5,
            11, 12, 14, 15, 14, 15, 9, 8, 9, 14, 5, 6, 8, 6, 5, 12,
            9, 15, 5, 11, 6, 8, 13, 12, 5, 12, 13, 14, 11, 8, 5, 6,
            8, 9, 9, 11, 13, 15, 15, 5, 7, 7, 8, 11, 14, 14, 12, 6,
            9, 13, 15, 7, 12, 8, 9, 11, 7, 7, 12, 7, 6, 15, 13, 11,
            9, 7, 15, 11, 8, 6, 6, 14, 12, 13, 5, 14, 13, 13, 7, 5,
            15, 5, 8, 11, 14, 14, 6, 14, 6, 9, 12, 9, 12, 5, 15, 8,
            8, 5, 12, 9, 12, 5, 14, 6, 8, 13, 6, 5, 15, 13, 11, 11};

        private final int[] state = new int[8];
        private final int[] words = new int[64];
        private final int[] sides = new int[10];
        private final byte[] last = new byte[64];
        private final byte[] between = new byte[32];
        /** One place more than there are transactions: an odd row has its last one twice. */
        private final byte[] tree = new byte[32 * (MOST_TRANSACTIONS + 1)];

        void sha(byte[] from, int at, int count, byte[] out, int outAt) {
            System.arraycopy(SHA_START, 0, state, 0, 8);
            int whole = count / 64 * 64;
            for (int i = 0; i < whole; i += 64) {
                shaBlock(from, at + i);
            }
            if (!pad(from, at + whole, count - whole)) {
                shaBlock(last, 0);
                Arrays.fill(last, (byte) 0);
            }
            for (int i = 0; i < 8; i++) {
                last[63 - i] = (byte) (8L * count >>> 8 * i);
            }
            shaBlock(last, 0);
            for (int i = 0; i < 32; i++) {
                out[outAt + i] = (byte) (state[i / 4] >>> 24 - 8 * (i % 4));
            }
        }

        void ripe(byte[] from, int at, int count, byte[] out, int outAt) {
            System.arraycopy(RIPE_START, 0, state, 0, 5);
            int whole = count / 64 * 64;
            for (int i = 0; i < whole; i += 64) {
                ripeBlock(from, at + i);
            }
            if (!pad(from, at + whole, count - whole)) {
                ripeBlock(last, 0);
                Arrays.fill(last, (byte) 0);
            }
            for (int i = 0; i < 8; i++) {
                last[56 + i] = (byte) (8L * count >>> 8 * i);
            }
            ripeBlock(last, 0);
            for (int i = 0; i < 20; i++) {
                out[outAt + i] = (byte) (state[i / 4] >>> 8 * (i % 4));
            }
        }

        void twice(byte[] from, int at, int count, byte[] out, int outAt) {
            sha(from, at, count, between, 0);
            sha(between, 0, 32, out, outAt);
        }

        void hash160(byte[] from, int at, int count, byte[] out, int outAt) {
            sha(from, at, count, between, 0);
            ripe(between, 0, 32, out, outAt);
        }

        /** The ROOT of so many IDs, 0 of none. */
        void root(byte[] ids, int count, byte[] out) {
            Arrays.fill(tree, 0, 32, (byte) 0);
            System.arraycopy(ids, 0, tree, 0, 32 * count);
            for (int n = count; n > 1; n = (n + 1) / 2) {
                System.arraycopy(tree, 32 * (n - 1), tree, 32 * n, 32);
                for (int i = 0; 2 * i < n; i++) {
                    twice(tree, 64 * i, 64, tree, 32 * i);
                }
            }
            System.arraycopy(tree, 0, out, 0, 32);
        }

        /** Fills the last block, but for the length; false if there is no room for that one. */
        private boolean pad(byte[] from, int at, int rest) {
            System.arraycopy(from, at, last, 0, rest);
            Arrays.fill(last, rest, 64, (byte) 0);
            last[rest] = (byte) 0x80;
            return rest < 56;
        }

        private void shaBlock(byte[] from, int at) {
            for (int i = 0; i < 16; i++) {
                int k = at + 4 * i;
                words[i] = from[k] << 24 | (from[k + 1] & 255) << 16 | (from[k + 2] & 255) << 8 | from[k + 3] & 255;
            }
            for (int i = 16; i < 64; i++) {
                int x = words[i - 15];
                int y = words[i - 2];
                int low = (x >>> 7 | x << 25) ^ (x >>> 18 | x << 14) ^ x >>> 3;
                int high = (y >>> 17 | y << 15) ^ (y >>> 19 | y << 13) ^ y >>> 10;
                words[i] = words[i - 16] + low + words[i - 7] + high;
            }
            int a = state[0];
            int b = state[1];
            int c = state[2];
            int d = state[3];
            int e = state[4];
            int f = state[5];
            int g = state[6];
            int h = state[7];
            for (int i = 0; i < 64; i++) {
                int turned = (e >>> 6 | e << 26) ^ (e >>> 11 | e << 21) ^ (e >>> 25 | e << 7);
                int x = h + turned + (e & f ^ ~e & g) + SHA_WORDS[i] + words[i];
                turned = (a >>> 2 | a << 30) ^ (a >>> 13 | a << 19) ^ (a >>> 22 | a << 10);
                int y = turned + (a & b ^ a & c ^ b & c);
                h = g;
                g = f;
                f = e;
                e = d + x;
                d = c;
                c = b;
                b = a;
                a = x + y;
            }
            state[0] += a;
            state[1] += b;
            state[2] += c;
            state[3] += d;
            state[4] += e;
            state[5] += f;
            state[6] += g;
            state[7] += h;
        }

        private void ripeBlock(byte[] from, int at) {
            for (int i = 0; i < 16; i++) {
                words[i] = (int) Buffer.number(from, at + 4 * i, 4);
            }
            ripeSide(0);
            ripeSide(1);
            int next = state[1] + sides[2] + sides[8];
            state[1] = state[2] + sides[3] + sides[9];
            state[2] = state[3] + sides[4] + sides[5];
            state[3] = state[4] + sides[0] + sides[6];
            state[4] = state[0] + sides[1] + sides[7];
            state[0] = next;
        }

        private void ripeSide(int side) {
            int a = state[0];
            int b = state[1];
            int c = state[2];
            int d = state[3];
            int e = state[4];
            for (int i = 0; i < 80; i++) {
                int k = 80 * side + i;
                int mixed;
                switch (side == 0 ? i / 16 : 4 - i / 16) {
                    case 0:
                        mixed = b ^ c ^ d;
                        break;
                    case 1:
                        mixed = b & c | ~b & d;
                        break;
                    case 2:
                        mixed = (b | ~c) ^ d;
                        break;
                    case 3:
                        mixed = b & d | c & ~d;
                        break;
                    default:
                        mixed = b ^ (c | ~d);
                        break;
                }
                int x = a + mixed + words[RIPE_ORDER[k]] + RIPE_WORDS[k / 16];
                int turn = RIPE_TURNS[k];
                x = (x << turn | x >>> 32 - turn) + e;
                a = e;
                e = d;
                d = c << 10 | c >>> 22;
                c = b;
                b = x;
            }
            sides[5 * side] = a;
            sides[5 * side + 1] = b;
            sides[5 * side + 2] = c;
            sides[5 * side + 3] = d;
            sides[5 * side + 4] = e;
        }
    }

    /**
     * Numbers modulo an odd one of 256 bits. They lie in registers of nine limbs of 29 bits, so that
     * nine products of limbs fit in a long; a register is named by where its first limb lies.
     */
    private static final class Field {
        static final int LIMBS = 9;
        static final int LIMB_BITS = 29;
        static final long LIMB = (1L << LIMB_BITS) - 1;
        /** Each step of a division halves one of two numbers of 256 bits, or stands before one that does. */
        private static final int MOST_STEPS = 1100;

        final long[] cells;
        final int modulus;
        private final int dividend;
        private final int divisor;
        private final int otherDividend;
        private final int otherDivisor;

        Field(int[] words, int registers) {
            cells = new long[LIMBS * (registers + 5)];
            modulus = LIMBS * registers;
            dividend = modulus + LIMBS;
            divisor = dividend + LIMBS;
            otherDividend = divisor + LIMBS;
            otherDivisor = otherDividend + LIMBS;
            loadWords(modulus, words);
        }

        /** From eight words, the highest first. */
        void loadWords(int out, int[] words) {
            for (int i = 0; i < LIMBS; i++) {
                int bit = LIMB_BITS * i;
                int low = 7 - bit / 32;
                long two = words[low] & MOST_UNSIGNED;
                if (low > 0) {
                    two |= (long) words[low - 1] << 32;
                }
                cells[out + i] = two >>> bit % 32 & LIMB;
            }
        }

        /** From 32 bytes, the highest first; this may be the modulus or more. */
        void load(int out, byte[] from, int at) {
            long bits = 0;
            int held = 0;
            int limb = out;
            for (int i = 31; i >= 0; i--) {
                bits |= (from[at + i] & 255L) << held;
                held += 8;
                if (held >= LIMB_BITS) {
                    cells[limb] = bits & LIMB;
                    limb++;
                    bits >>>= LIMB_BITS;
                    held -= LIMB_BITS;
                }
            }
            cells[out + 8] = bits;
        }

        void loadSmall(int out, int value) {
            Arrays.fill(cells, out, out + LIMBS, 0);
            cells[out] = value & LIMB;
            cells[out + 1] = value >>> LIMB_BITS;
        }

        /** To 32 bytes, the highest first. */
        void store(int from, byte[] out, int at) {
            for (int i = 0; i < 32; i++) {
                out[at + 31 - i] = (byte) bitsAt(from, 8 * i);
            }
        }

        /** The bits from this one on, at least eight of them where there are so many. */
        long bitsAt(int from, int bit) {
            int limb = bit / LIMB_BITS;
            int off = bit % LIMB_BITS;
            long bits = cells[from + limb] >>> off;
            return limb < 8 ? bits | cells[from + limb + 1] << LIMB_BITS - off : bits;
        }

        void copy(int out, int from, int registers) {
            System.arraycopy(cells, from, cells, out, LIMBS * registers);
        }

        boolean isZero(int a) {
            long all = 0;
            for (int i = 0; i < LIMBS; i++) {
                all |= cells[a + i];
            }
            return all == 0;
        }

        boolean isSame(int a, int b) {
            long all = 0;
            for (int i = 0; i < LIMBS; i++) {
                all |= cells[a + i] ^ cells[b + i];
            }
            return all == 0;
        }

        boolean isBelow(int a, int b) {
            for (int i = 8; i > 0; i--) {
                if (cells[a + i] != cells[b + i]) {
                    return cells[a + i] < cells[b + i];
                }
            }
            return cells[a] < cells[b];
        }

        /** Of a number of 256 bits; the modulus has the highest one, so it goes in once at most. */
        void reduce(int a) {
            if (!isBelow(a, modulus)) {
                subtract(a, a, modulus);
            }
        }

        void add(int out, int a, int b) {
            long carry = 0;
            for (int i = 0; i < LIMBS; i++) {
                carry += cells[a + i] + cells[b + i];
                cells[out + i] = carry & LIMB;
                carry >>= LIMB_BITS;
            }
            int top = 8;
            while (top > 0 && cells[out + top] == cells[modulus + top]) {
                top--;
            }
            if (cells[out + top] >= cells[modulus + top]) {
                carry = 0;
                for (int i = 0; i < LIMBS; i++) {
                    carry += cells[out + i] - cells[modulus + i];
                    cells[out + i] = carry & LIMB;
                    carry >>= LIMB_BITS;
                }
            }
        }

        void subtract(int out, int a, int b) {
            long carry = 0;
            for (int i = 0; i < LIMBS; i++) {
                carry += cells[a + i] - cells[b + i];
                cells[out + i] = carry & LIMB;
                carry >>= LIMB_BITS;
            }
            if (carry < 0) {
                carry = 0;
                for (int i = 0; i < LIMBS; i++) {
                    carry += cells[out + i] + cells[modulus + i];
                    cells[out + i] = carry & LIMB;
                    carry >>= LIMB_BITS;
                }
            }
        }

        /**
         * out = a / b, without a product: what b is to a, the divisors are to the dividends in each
         * step, until one divisor is 0 and so the other one 1. By 0 it answers 0.
         */
        void divide(int out, int a, int b) {
            copy(dividend, a, 1);
            copy(divisor, b, 1);
            loadSmall(otherDividend, 0);
            copy(otherDivisor, modulus, 1);
            for (int step = 0; step < MOST_STEPS && !isZero(divisor); step++) {
                if ((cells[divisor] & 1) == 0) {
                    halve(divisor);
                    halve(dividend);
                } else if (isBelow(divisor, otherDivisor)) {
                    swap(divisor, otherDivisor);
                    swap(dividend, otherDividend);
                } else {
                    subtract(divisor, divisor, otherDivisor);
                    subtract(dividend, dividend, otherDividend);
                }
            }
            copy(out, otherDividend, 1);
        }

        private void halve(int a) {
            long odd = cells[a] & 1;
            long carry = 0;
            for (int i = 0; i < LIMBS && odd != 0; i++) {
                carry += cells[a + i] + cells[modulus + i];
                cells[a + i] = carry & LIMB;
                carry >>= LIMB_BITS;
            }
            for (int i = 0; i < 8; i++) {
                cells[a + i] = cells[a + i] >>> 1 | (cells[a + i + 1] & 1) << LIMB_BITS - 1;
            }
            cells[a + 8] >>>= 1;
        }

        private void swap(int a, int b) {
            for (int i = 0; i < LIMBS; i++) {
                long kept = cells[a + i];
                cells[a + i] = cells[b + i];
                cells[b + i] = kept;
            }
        }
    }

    /**
     * Keys and signatures over secp256k1. A point is three registers, x / z z and y / z z z of them
     * being its coordinates; z is 0 for the one that has none.
     */
    private static final class Curve {
        private static final int[] PRIME = {-1, -1, -1, -1, -1, -1, -2, 0xFFFFFC2F};
        private static final int[] ORDER = {
            -1, -1, -1, -2, 0xBAAEDCE6, 0xAF48A03B, 0xBFD25E8C, 0xD0364141};
        private static final int[] BASE_X = {
            0x79BE667E, 0xF9DCBBAC, 0x55A06295, 0xCE870B07, 0x029BFCDB, 0x2DCE28D9, 0x59F2815B, 0x16F81798};
        private static final int[] BASE_Y = {
            0x483ADA77, 0x26A3C465, 0x5DA4FBFC, 0x0E1108A8, 0xFD17B448, 0xA6855419, 0x9C47D08F, 0xFB10D4B8};
        /** (prime + 1) / 4: this power of a square is a root of it. */
        private static final int[] ROOT_POWER = {0x3FFFFFFF, -1, -1, -1, -1, -1, -1, 0xBFFFFF0C};
        /** 2^261 modulo the prime is 256 * 2^29 + 31264, and 2^256 is 8 * 2^29 + 977. */
        private static final long FOLD_LOW = 31264;
        private static final long FOLD_HIGH = 256;
        private static final long TOP_LOW = 977;
        private static final long TOP_HIGH = 8;
        private static final long TOP_LIMB = (1L << 24) - 1;

        private static final int Y = 9;
        private static final int Z = 18;
        private static final int POINT = 27;
        private static final int T0 = 0;
        private static final int T1 = 9;
        private static final int T2 = 18;
        private static final int T3 = 27;
        private static final int T4 = 36;
        private static final int T5 = 45;
        private static final int SEVEN = 54;
        private static final int SUM = 63;
        /** One to fifteen times the key, and the base: what four bits of a number can ask for. */
        static final int KEYS = SUM + POINT;
        private static final int BASES = KEYS + 15 * POINT;
        private static final int COORDINATE_REGISTERS = 100;

        private static final int R = 0;
        private static final int S = 9;
        private static final int H = 18;
        private static final int OF_BASE = 27;
        private static final int OF_KEY = 36;
        private static final int SCALAR_REGISTERS = 5;

        private final Field field = new Field(PRIME, COORDINATE_REGISTERS);
        private final Field scalars = new Field(ORDER, SCALAR_REGISTERS);
        private final byte[] row = new byte[64];
        private boolean inRange;

        Curve() {
            field.loadSmall(SEVEN, 7);
            field.loadWords(BASES, BASE_X);
            field.loadWords(BASES + Y, BASE_Y);
            field.loadSmall(BASES + Z, 1);
            fillMultiples(BASES);
        }

        /** The bytes of KEY n: 33, or 65 if they are whole. */
        void writeKey(int n, boolean whole, Buffer out) {
            scalars.loadSmall(OF_BASE, n);
            sum(false);
            multiply(T0, SUM + Z, SUM + Z);
            field.divide(T4, SUM, T0);
            multiply(T0, T0, SUM + Z);
            field.divide(T5, SUM + Y, T0);
            field.store(T4, row, 0);
            field.store(T5, row, 32);
            out.addNumber(whole ? 4 : 2 + (row[63] & 1), 1);
            out.addBytes(row, 0, whole ? 64 : 32);
        }

        /** Writes the signature of h by KEY n, and its type. */
        void writeSignature(int n, int type, byte[] h, Hasher hasher, Buffer out) {
            Arrays.fill(row, 0, 28, (byte) 0);
            for (int i = 0; i < 4; i++) {
                row[28 + i] = (byte) (n >>> 24 - 8 * i);
            }
            System.arraycopy(h, 0, row, 32, 32);
            hasher.sha(row, 0, 64, row, 0);
            scalars.load(OF_BASE, row, 0);
            scalars.reduce(OF_BASE);
            sum(false);
            multiply(T0, SUM + Z, SUM + Z);
            field.divide(T0, SUM, T0);
            field.store(T0, row, 0);
            scalars.load(R, row, 0);
            scalars.reduce(R);
            scalars.load(S, h, 0);
            scalars.reduce(S);
            addTimes(S, R, n);
            scalars.divide(S, S, OF_BASE);
            out.clear();
            out.addNumber(0x30, 1);
            out.addNumber(0, 1);
            writeDerNumber(R, out);
            writeDerNumber(S, out);
            out.bytes[1] = (byte) (out.length - 2);
            out.addNumber(type, 1);
        }

        /** Whether it is strict DER and a byte more; its numbers are taken. */
        boolean takeSignature(byte[] from, int at, int count) {
            if (count < 9 || count > 73 || from[at] != 0x30 || (from[at + 1] & 255) != count - 3) {
                return false;
            }
            int rCount = from[at + 3] & 255;
            int sCount = count - 7 - rCount;
            if (sCount < 1 || (from[at + 5 + rCount] & 255) != sCount) {
                return false;
            }
            if (!isDerNumber(from, at + 2, rCount) || !isDerNumber(from, at + 4 + rCount, sCount)) {
                return false;
            }
            inRange = takeNumber(R, from, at + 4, rCount) && takeNumber(S, from, at + 6 + rCount, sCount);
            return true;
        }

        /** Whether these bytes are a key; it is taken then. */
        boolean takeKey(byte[] from, int at, int count) {
            boolean whole = count == 65 && from[at] == 4;
            if (!whole && (count != 33 || from[at] != 2 && from[at] != 3)) {
                return false;
            }
            field.load(KEYS, from, at + 1);
            if (!field.isBelow(KEYS, field.modulus)) {
                return false;
            }
            multiply(T0, KEYS, KEYS);
            multiply(T0, T0, KEYS);
            field.add(T0, T0, SEVEN);
            if (whole) {
                field.load(KEYS + Y, from, at + 33);
                if (!field.isBelow(KEYS + Y, field.modulus)) {
                    return false;
                }
            } else {
                takeRoot(KEYS + Y, T0);
                if ((field.cells[KEYS + Y] & 1) != (from[at] & 1)) {
                    field.subtract(KEYS + Y, field.modulus, KEYS + Y);
                }
            }
            multiply(T1, KEYS + Y, KEYS + Y);
            field.loadSmall(KEYS + Z, 1);
            return field.isSame(T0, T1);
        }

        /** Makes of the hash and the signature by how much base and key are to be taken. */
        boolean weigh(byte[] h) {
            if (!inRange) {
                return false;
            }
            scalars.load(H, h, 0);
            scalars.reduce(H);
            scalars.divide(OF_BASE, H, S);
            scalars.divide(OF_KEY, R, S);
            return true;
        }

        /** One to fifteen times the first point of a row. */
        void fillMultiples(int first) {
            doublePoint(first + POINT, first);
            for (int i = 2; i < 15; i++) {
                addPoints(first + POINT * i, first + POINT * (i - 1), first);
            }
        }

        /** Four bits of both numbers at a time, from the highest ones on. */
        void sum(boolean withKey) {
            field.loadSmall(SUM + Z, 0);
            boolean begun = false;
            for (int i = 63; i >= 0; i--) {
                for (int n = 0; n < 4 && begun; n++) {
                    doublePoint(SUM, SUM);
                }
                int base = (int) scalars.bitsAt(OF_BASE, 4 * i) & 15;
                int key = withKey ? (int) scalars.bitsAt(OF_KEY, 4 * i) & 15 : 0;
                if (base > 0 && !addPoints(SUM, SUM, BASES + POINT * (base - 1))) {
                    doublePoint(SUM, SUM);
                }
                if (key > 0 && !addPoints(SUM, SUM, KEYS + POINT * (key - 1))) {
                    doublePoint(SUM, SUM);
                }
                begun = begun || base > 0 || key > 0;
            }
        }

        /** Whether the sum's x is r modulo the order: r or, if that is below the prime, r + order. */
        boolean sumHasR() {
            if (field.isZero(SUM + Z)) {
                return false;
            }
            multiply(T0, SUM + Z, SUM + Z);
            System.arraycopy(scalars.cells, R, field.cells, T1, Field.LIMBS);
            multiply(T2, T1, T0);
            if (field.isSame(T2, SUM)) {
                return true;
            }
            System.arraycopy(scalars.cells, scalars.modulus, field.cells, T3, Field.LIMBS);
            field.subtract(T4, field.modulus, T3);
            if (!field.isBelow(T1, T4)) {
                return false;
            }
            field.add(T1, T1, T3);
            multiply(T2, T1, T0);
            return field.isSame(T2, SUM);
        }

        /** Tag, length and a number that is not below 0 and has no 0 in front without need. */
        private static boolean isDerNumber(byte[] from, int at, int count) {
            if (from[at] != 2 || count < 1 || from[at + 2] < 0) {
                return false;
            }
            return count == 1 || from[at + 2] != 0 || from[at + 3] < 0;
        }

        /** Takes a number of any length; whether it is 1 .. order - 1. */
        private boolean takeNumber(int out, byte[] from, int at, int count) {
            int skipped = count > 32 ? count - 32 : 0;
            for (int i = 0; i < skipped; i++) {
                if (from[at + i] != 0) {
                    return false;
                }
            }
            int kept = count - skipped;
            Arrays.fill(row, 0, 32, (byte) 0);
            System.arraycopy(from, at + skipped, row, 32 - kept, kept);
            scalars.load(out, row, 0);
            return !scalars.isZero(out) && scalars.isBelow(out, scalars.modulus);
        }

        private void writeDerNumber(int from, Buffer out) {
            scalars.store(from, row, 0);
            int first = 0;
            while (first < 31 && row[first] == 0) {
                first++;
            }
            int front = row[first] < 0 ? 1 : 0;
            out.addNumber(2, 1);
            out.addNumber(32 - first + front, 1);
            out.addNumber(0, front);
            out.addBytes(row, first, 32 - first);
        }

        /** out = out + n a, by doubling; n is no more than an int. */
        private void addTimes(int out, int a, int n) {
            scalars.loadSmall(H, 0);
            for (int bit = 30; bit >= 0; bit--) {
                scalars.add(H, H, H);
                if ((n >>> bit & 1) != 0) {
                    scalars.add(H, H, a);
                }
            }
            scalars.add(out, out, H);
        }

        private void takeRoot(int out, int a) {
            field.loadSmall(out, 1);
            for (int bit = 255; bit >= 0; bit--) {
                multiply(out, out, out);
                if ((ROOT_POWER[7 - bit / 32] >>> bit % 32 & 1) != 0) {
                    multiply(out, out, a);
                }
            }
        }

        private void doublePoint(int out, int p) {
            multiply(T0, p, p);
            field.add(T1, T0, T0);
            field.add(T0, T0, T1);
            multiply(T1, p + Y, p + Y);
            field.add(T1, T1, T1);
            multiply(T2, p, T1);
            field.add(T2, T2, T2);
            multiply(T3, p + Y, p + Z);
            field.add(out + Z, T3, T3);
            multiply(T1, T1, T1);
            field.add(T1, T1, T1);
            multiply(T3, T0, T0);
            field.subtract(T3, T3, T2);
            field.subtract(out, T3, T2);
            field.subtract(T2, T2, out);
            multiply(T2, T2, T0);
            field.subtract(out + Y, T2, T1);
        }

        /** False, and nothing done, if both are the same point: that one must be doubled. */
        private boolean addPoints(int out, int p, int q) {
            if (field.isZero(p + Z)) {
                field.copy(out, q, 3);
                return true;
            }
            multiply(T0, p + Z, p + Z);
            multiply(T1, q + Z, q + Z);
            multiply(T2, p, T1);
            multiply(T3, q, T0);
            multiply(T4, p + Y, q + Z);
            multiply(T4, T4, T1);
            multiply(T5, q + Y, p + Z);
            multiply(T5, T5, T0);
            field.subtract(T3, T3, T2);
            field.subtract(T5, T5, T4);
            if (field.isZero(T3) && field.isZero(T5)) {
                return false;
            }
            multiply(T0, p + Z, q + Z);
            multiply(out + Z, T0, T3);
            multiply(T0, T3, T3);
            multiply(T1, T0, T3);
            multiply(T2, T2, T0);
            multiply(T0, T5, T5);
            field.subtract(T0, T0, T1);
            field.subtract(T0, T0, T2);
            field.subtract(out, T0, T2);
            field.subtract(T2, T2, out);
            multiply(T2, T2, T5);
            multiply(T4, T4, T1);
            field.subtract(out + Y, T2, T4);
            return true;
        }

        /**
         * out = x y modulo the prime. The columns from 2^261 on come first, so that they can be
         * folded into the lower ones before these are carried.
         */
        private void multiply(int out, int x, int y) {
            long[] r = field.cells;
            long a0 = r[x], a1 = r[x + 1], a2 = r[x + 2], a3 = r[x + 3], a4 = r[x + 4];
            long a5 = r[x + 5], a6 = r[x + 6], a7 = r[x + 7], a8 = r[x + 8];
            long b0 = r[y], b1 = r[y + 1], b2 = r[y + 2], b3 = r[y + 3], b4 = r[y + 4];
            long b5 = r[y + 5], b6 = r[y + 6], b7 = r[y + 7], b8 = r[y + 8];
            long c9 = a1 * b8 + a2 * b7 + a3 * b6 + a4 * b5 + a5 * b4 + a6 * b3 + a7 * b2 + a8 * b1;
            long c10 = (c9 >>> 29) + a2 * b8 + a3 * b7 + a4 * b6 + a5 * b5 + a6 * b4 + a7 * b3 + a8 * b2;
            long c11 = (c10 >>> 29) + a3 * b8 + a4 * b7 + a5 * b6 + a6 * b5 + a7 * b4 + a8 * b3;
            long c12 = (c11 >>> 29) + a4 * b8 + a5 * b7 + a6 * b6 + a7 * b5 + a8 * b4;
            long c13 = (c12 >>> 29) + a5 * b8 + a6 * b7 + a7 * b6 + a8 * b5;
            long c14 = (c13 >>> 29) + a6 * b8 + a7 * b7 + a8 * b6;
            long c15 = (c14 >>> 29) + a7 * b8 + a8 * b7;
            long c16 = (c15 >>> 29) + a8 * b8;
            long h0 = c9 & Field.LIMB, h1 = c10 & Field.LIMB, h2 = c11 & Field.LIMB, h3 = c12 & Field.LIMB;
            long h4 = c13 & Field.LIMB, h5 = c14 & Field.LIMB, h6 = c15 & Field.LIMB, h7 = c16 & Field.LIMB;
            long h8 = c16 >>> 29;
            long c = a0 * b0 + FOLD_LOW * h0 + FOLD_LOW * FOLD_HIGH * h8;
            long d0 = c & Field.LIMB;
            c = (c >>> 29) + a0 * b1 + a1 * b0 + FOLD_LOW * h1 + FOLD_HIGH * h0 + FOLD_HIGH * FOLD_HIGH * h8;
            long d1 = c & Field.LIMB;
            c = (c >>> 29) + a0 * b2 + a1 * b1 + a2 * b0 + FOLD_LOW * h2 + FOLD_HIGH * h1;
            r[out + 2] = c & Field.LIMB;
            c = (c >>> 29) + a0 * b3 + a1 * b2 + a2 * b1 + a3 * b0 + FOLD_LOW * h3 + FOLD_HIGH * h2;
            r[out + 3] = c & Field.LIMB;
            c = (c >>> 29) + a0 * b4 + a1 * b3 + a2 * b2 + a3 * b1 + a4 * b0 + FOLD_LOW * h4 + FOLD_HIGH * h3;
            r[out + 4] = c & Field.LIMB;
            c = (c >>> 29) + a0 * b5 + a1 * b4 + a2 * b3 + a3 * b2 + a4 * b1 + a5 * b0
                    + FOLD_LOW * h5 + FOLD_HIGH * h4;
            r[out + 5] = c & Field.LIMB;
            c = (c >>> 29) + a0 * b6 + a1 * b5 + a2 * b4 + a3 * b3 + a4 * b2 + a5 * b1 + a6 * b0
                    + FOLD_LOW * h6 + FOLD_HIGH * h5;
            r[out + 6] = c & Field.LIMB;
            c = (c >>> 29) + a0 * b7 + a1 * b6 + a2 * b5 + a3 * b4 + a4 * b3 + a5 * b2 + a6 * b1 + a7 * b0
                    + FOLD_LOW * h7 + FOLD_HIGH * h6;
            r[out + 7] = c & Field.LIMB;
            c = (c >>> 29) + a0 * b8 + a1 * b7 + a2 * b6 + a3 * b5 + a4 * b4 + a5 * b3 + a6 * b2 + a7 * b1
                    + a8 * b0 + FOLD_LOW * h8 + FOLD_HIGH * h7;
            r[out + 8] = c & TOP_LIMB;
            c >>>= 24;
            d0 += TOP_LOW * c;
            d1 += TOP_HIGH * c + (d0 >>> 29);
            r[out] = d0 & Field.LIMB;
            r[out + 1] = d1 & Field.LIMB;
            c = d1 >>> 29;
            for (int i = 2; i < Field.LIMBS && c != 0; i++) {
                c += r[out + i];
                r[out + i] = c & Field.LIMB;
                c >>>= 29;
            }
            int m = field.modulus;
            int top = 8;
            while (top > 0 && r[out + top] == r[m + top]) {
                top--;
            }
            boolean beyond = r[out + top] >= r[m + top];
            c = 0;
            for (int i = 0; i < Field.LIMBS && beyond; i++) {
                c += r[out + i] - r[m + i];
                r[out + i] = c & Field.LIMB;
                c >>= 29;
            }
        }
    }

    /** A TARGET, 32 bytes with the lowest first, and two more for products. */
    private static final class Target {
        private static final int SIZE = 34;
        private static final long SPAN = 4800;
        private static final long LEAST_SPAN = 1200;
        private static final long MOST_SPAN = 19200;

        private final byte[] value = new byte[SIZE];
        private final byte[] divisor = new byte[SIZE];
        private final byte[] rest = new byte[SIZE];

        /** Whether BITS have a target. None is above the easiest, which has the most of size and number. */
        boolean take(int bits) {
            int size = bits >>> 24;
            Arrays.fill(value, (byte) 0);
            if (size > 32 || (bits & 0x800000) != 0) {
                return false;
            }
            int all = 0;
            for (int i = 0; i < 3; i++) {
                int at = size - 3 + i;
                if (at >= 0) {
                    value[at] = (byte) (bits >>> 8 * i);
                    all |= value[at];
                }
            }
            return all != 0;
        }

        boolean isReachedBy(byte[] hash) {
            for (int i = 31; i >= 0; i--) {
                if (hash[i] != value[i]) {
                    return (hash[i] & 255) < (value[i] & 255);
                }
            }
            return true;
        }

        /** Times the span by 4800, at most the easiest. */
        void stretch(long span) {
            long factor = Math.max(LEAST_SPAN, Math.min(MOST_SPAN, span));
            long carry = 0;
            for (int i = 0; i < SIZE; i++) {
                carry += (value[i] & 255) * factor;
                value[i] = (byte) carry;
                carry >>= 8;
            }
            for (int i = SIZE - 1; i >= 0; i--) {
                carry = carry << 8 | value[i] & 255;
                value[i] = (byte) (carry / SPAN);
                carry %= SPAN;
            }
            // What lies between the easiest and 2^255 has the easiest one's BITS anyhow.
            if (value[33] != 0 || value[32] != 0 || value[31] < 0) {
                take(EASIEST);
            }
        }

        int asBits() {
            int size = SIZE;
            while (size > 0 && value[size - 1] == 0) {
                size--;
            }
            int number = 0;
            for (int i = 1; i <= 3; i++) {
                number = number << 8 | (size >= i ? value[size - i] & 255 : 0);
            }
            if ((number & 0x800000) != 0) {
                number >>>= 8;
                size++;
            }
            return size << 24 | number;
        }

        /** 2^256 by target + 1, bit by bit from the divisor's highest one on: below that it is 0. */
        long work() {
            System.arraycopy(value, 0, divisor, 0, SIZE);
            int carry = 1;
            for (int i = 0; i < SIZE && carry != 0; i++) {
                divisor[i]++;
                carry = divisor[i] == 0 ? 1 : 0;
            }
            int top = 256;
            while (top > 0 && (divisor[top / 8] >>> top % 8 & 1) == 0) {
                top--;
            }
            Arrays.fill(rest, (byte) 0);
            rest[top / 8] = (byte) (1 << top % 8);
            long quotient = takeOut() ? 1 : 0;
            for (int i = top; i < 256; i++) {
                doubleRest();
                quotient = quotient << 1 | (takeOut() ? 1 : 0);
            }
            return quotient;
        }

        private void doubleRest() {
            int carry = 0;
            for (int i = 0; i < SIZE; i++) {
                carry += 2 * (rest[i] & 255);
                rest[i] = (byte) carry;
                carry >>= 8;
            }
        }

        /** Takes the divisor out of the rest if it is not above it. */
        private boolean takeOut() {
            int top = SIZE - 1;
            while (top > 0 && rest[top] == divisor[top]) {
                top--;
            }
            if ((rest[top] & 255) < (divisor[top] & 255)) {
                return false;
            }
            int carry = 0;
            for (int i = 0; i < SIZE; i++) {
                carry += (rest[i] & 255) - (divisor[i] & 255);
                rest[i] = (byte) carry;
                carry >>= 8;
            }
            return true;
        }
    }

    /** Where the parts of a transaction lie in the bytes that it was read from. */
    private static final class TxView {
        private static final int LOCK_TIMES = 500000000;

        byte[] bytes;
        int inputs;
        int outputs;
        final int[] inputAt = new int[40];
        final int[] inputScript = new int[40];
        final int[] inputSize = new int[40];
        final int[] outputAt = new int[180];
        final int[] outputScript = new int[180];
        final int[] outputSize = new int[180];
        private int start;
        private int at;

        /** Answers where it ends, -1 if these bytes are no transaction. */
        int read(byte[] from, int begin, int limit) {
            bytes = from;
            start = begin;
            at = begin + 4;
            inputs = readCount(limit, inputAt.length);
            for (int i = 0; i < inputs; i++) {
                inputAt[i] = at;
                at += 36;
                inputSize[i] = readCount(limit, limit);
                if (inputSize[i] < 0) {
                    return -1;
                }
                inputScript[i] = at;
                at += inputSize[i] + 4;
            }
            outputs = inputs < 0 ? -1 : readCount(limit, outputAt.length);
            for (int i = 0; i < outputs; i++) {
                outputAt[i] = at;
                at += 8;
                outputSize[i] = readCount(limit, limit);
                if (outputSize[i] < 0) {
                    return -1;
                }
                outputScript[i] = at;
                at += outputSize[i];
            }
            at += 4;
            return outputs < 0 || at > limit ? -1 : at;
        }

        long sequence(int i) {
            return Buffer.number(bytes, inputScript[i] + inputSize[i], 4);
        }

        long lock() {
            return Buffer.number(bytes, at - 4, 4);
        }

        long value(int i) {
            return Buffer.number(bytes, outputAt[i], 8);
        }

        long allValues() {
            long all = 0;
            for (int i = 0; i < outputs; i++) {
                all += value(i);
            }
            return all;
        }

        /** The reason to refuse it as it stands, 7 or 8; 0 if there is none. */
        int refusal(boolean first) {
            if ((inputs == 1 && isNone(0)) != first) {
                return 7;
            }
            if (inputs == 0 || outputs == 0 || !valuesFit()) {
                return 8;
            }
            if (first) {
                return inputSize[0] < 2 || inputSize[0] > 100 ? 8 : 0;
            }
            for (int i = 0; i < inputs; i++) {
                if (isNone(i) || isTakenBefore(i)) {
                    return 8;
                }
            }
            return 0;
        }

        boolean isLast(int height, long time) {
            long lock = lock();
            if (lock == 0 || lock < (lock < LOCK_TIMES ? height : time)) {
                return true;
            }
            for (int i = 0; i < inputs; i++) {
                if (sequence(i) != MOST_UNSIGNED) {
                    return false;
                }
            }
            return true;
        }

        /** Whether a lock that a script tells of is reached by this transaction's, for this input. */
        boolean locksUntil(long asked, int input) {
            long lock = lock();
            if (asked < 0 || asked < LOCK_TIMES != lock < LOCK_TIMES) {
                return false;
            }
            return asked <= lock && sequence(input) != MOST_UNSIGNED;
        }

        int asks() {
            int asks = 0;
            for (int i = 0; i < inputs; i++) {
                asks += Machine.asks(bytes, inputScript[i], inputScript[i] + inputSize[i]);
            }
            for (int i = 0; i < outputs; i++) {
                asks += Machine.asks(bytes, outputScript[i], outputScript[i] + outputSize[i]);
            }
            return asks;
        }

        /** Writes what is signed for an input; false if its type asks for an output that is not there. */
        boolean writeSigned(Buffer out, int input, int type, Buffer code) {
            int kind = type & 31;
            if (kind == 3 && input >= outputs) {
                return false;
            }
            boolean alone = (type & 128) != 0;
            out.clear();
            out.addBytes(bytes, start, 4);
            out.addCount(alone ? 1 : inputs);
            for (int i = alone ? input : 0; i < (alone ? input + 1 : inputs); i++) {
                out.addBytes(bytes, inputAt[i], 36);
                out.addCount(i == input ? code.length : 0);
                out.addBytes(code.bytes, 0, i == input ? code.length : 0);
                if (i != input && (kind == 2 || kind == 3)) {
                    out.addNumber(0, 4);
                } else {
                    out.addBytes(bytes, inputScript[i] + inputSize[i], 4);
                }
            }
            int shown = kind == 2 ? 0 : kind == 3 ? input + 1 : outputs;
            out.addCount(shown);
            for (int i = 0; i < shown; i++) {
                if (kind == 3 && i < input) {
                    out.addNumber(-1, 8);
                    out.addCount(0);
                } else {
                    out.addBytes(bytes, outputAt[i], outputScript[i] + outputSize[i] - outputAt[i]);
                }
            }
            out.addBytes(bytes, at - 4, 4);
            out.addNumber(type, 4);
            return true;
        }

        private boolean isNone(int i) {
            int all = 0;
            for (int k = 0; k < 32; k++) {
                all |= bytes[inputAt[i] + k];
            }
            return all == 0 && Buffer.number(bytes, inputAt[i] + 32, 4) == MOST_UNSIGNED;
        }

        private boolean isTakenBefore(int i) {
            for (int before = 0; before < i; before++) {
                int k = 0;
                while (k < 36 && bytes[inputAt[before] + k] == bytes[inputAt[i] + k]) {
                    k++;
                }
                if (k == 36) {
                    return true;
                }
            }
            return false;
        }

        private boolean valuesFit() {
            long all = 0;
            for (int i = 0; i < outputs; i++) {
                long value = value(i);
                if (value < 0 || value > MOST_VALUE) {
                    return false;
                }
                all += value;
            }
            return all <= MOST_VALUE;
        }

        /** A COUNT in its shortest form, -1 if it is none or above the most. */
        private int readCount(int limit, int most) {
            if (at >= limit) {
                return -1;
            }
            int count = bytes[at] & 255;
            at++;
            // 254 and 255 would tell of 65536 and more, for which no tape has room.
            if (count > 253 || count == 253 && limit - at < 2) {
                return -1;
            }
            if (count == 253) {
                count = (int) Buffer.number(bytes, at, 2);
                at += 2;
                if (count < 253) {
                    return -1;
                }
            }
            return count > most ? -1 : count;
        }
    }

    /** A transaction of the draft. Scripts 0 .. 5 are those of inputs, 6 .. 11 those of outputs. */
    private static final class DraftTx {
        int inputs;
        int outputs;
        final int[] size = new int[2 * MOST_DRAFT_ROWS];
        private long version;
        private long lock;
        private final byte[] ids = new byte[32 * MOST_DRAFT_ROWS];
        private final int[] index = new int[MOST_DRAFT_ROWS];
        private final long[] sequence = new long[MOST_DRAFT_ROWS];
        private final long[] value = new long[MOST_DRAFT_ROWS];
        private final byte[][] script = new byte[2 * MOST_DRAFT_ROWS][DRAFT_SCRIPT];

        /** How long a PUSH of so many bytes is, with what stands before them. */
        static int pushSize(int count) {
            return count + (count < 76 ? 1 : count < 256 ? 2 : 3);
        }

        void begin(long newVersion, long newLock) {
            version = newVersion;
            lock = newLock;
            inputs = 0;
            outputs = 0;
        }

        /** Callers have seen that there is room, here and below. */
        void addInput(byte[] id, int at, int newIndex, long newSequence, Buffer code) {
            System.arraycopy(id, at, ids, 32 * inputs, 32);
            index[inputs] = newIndex;
            sequence[inputs] = newSequence;
            takeScript(inputs, code);
            inputs++;
        }

        void addOutput(long newValue, Buffer code) {
            value[outputs] = newValue;
            takeScript(MOST_DRAFT_ROWS + outputs, code);
            outputs++;
        }

        void addPush(int input, Buffer data) {
            byte[] out = script[input];
            int at = size[input];
            int count = data.length;
            if (count < 76) {
                out[at] = (byte) count;
            } else if (count < 256) {
                out[at] = 76;
                out[at + 1] = (byte) count;
            } else {
                out[at] = 77;
                out[at + 1] = (byte) count;
                out[at + 2] = (byte) (count >>> 8);
            }
            size[input] += pushSize(count);
            System.arraycopy(data.bytes, 0, out, size[input] - count, count);
        }

        void write(Buffer out) {
            out.addNumber(version, 4);
            out.addCount(inputs);
            for (int i = 0; i < inputs; i++) {
                out.addBytes(ids, 32 * i, 32);
                out.addNumber(index[i], 4);
                out.addCount(size[i]);
                out.addBytes(script[i], 0, size[i]);
                out.addNumber(sequence[i], 4);
            }
            out.addCount(outputs);
            for (int i = 0; i < outputs; i++) {
                int slot = MOST_DRAFT_ROWS + i;
                out.addNumber(value[i], 8);
                out.addCount(size[slot]);
                out.addBytes(script[slot], 0, size[slot]);
            }
            out.addNumber(lock, 4);
        }

        private void takeScript(int slot, Buffer code) {
            System.arraycopy(code.bytes, 0, script[slot], 0, code.length);
            size[slot] = code.length;
        }
    }

    /** A block with what is known of it. */
    private static final class Block {
        final byte[] bytes = new byte[TAPE_LIMIT];
        final int[] starts = new int[MOST_TRANSACTIONS + 1];
        final byte[] ids = new byte[32 * MOST_TRANSACTIONS];
        final byte[] hash = new byte[32];
        int length;
        int count;
        int parent = -1;
        int height;
        long work;
        boolean bad;
        /** The coins behind this block, once it has been connected: then nothing must be taken back. */
        int[] coinRow;

        /** Whether the tape is a block; its hash is taken then. */
        boolean read(Buffer tape, TxView view, Hasher hasher) {
            length = tape.length;
            System.arraycopy(tape.bytes, 0, bytes, 0, length);
            count = length > 80 ? bytes[80] & 255 : -1;
            if (count < 0 || count > MOST_TRANSACTIONS) {
                return false;
            }
            int at = 81;
            for (int t = 0; t < count; t++) {
                starts[t] = at;
                at = view.read(bytes, at, length);
                if (at < 0) {
                    return false;
                }
            }
            starts[count] = at;
            if (at != length) {
                return false;
            }
            hasher.twice(bytes, 0, 80, hash, 0);
            return true;
        }

        void nameTransactions(Hasher hasher) {
            for (int t = 0; t < count; t++) {
                hasher.twice(bytes, starts[t], starts[t + 1] - starts[t], ids, 32 * t);
            }
        }

        long time() {
            return Buffer.number(bytes, 68, 4);
        }

        int bits() {
            return (int) Buffer.number(bytes, 72, 4);
        }
    }

    /**
     * The elements of a script that runs. They never change, so copies share their bytes in the
     * arena, which is emptied with each new input alone.
     */
    private static final class Stack {
        static final int MOST = 1000;
        /** Three more may come before they are counted. */
        private static final int ROWS = MOST + 4;
        /** Pushes of three scripts, and 201 results of at most 32 bytes for each of them. */
        private static final int ARENA = 3 * TAPE_LIMIT + 3 * 201 * 32;

        final byte[] arena = new byte[ARENA];
        final int[] at = new int[ROWS];
        final int[] count = new int[ROWS];
        int size;
        private int used;
        private int otherSize;
        private final int[] otherAt = new int[ROWS];
        private final int[] otherCount = new int[ROWS];
        private final byte[] digits = new byte[8];

        void clear() {
            size = 0;
            otherSize = 0;
            used = 0;
        }

        void clearOther() {
            otherSize = 0;
        }

        boolean isTooHigh() {
            return size + otherSize > MOST;
        }

        boolean add(byte[] from, int start, int bytes) {
            if (size >= ROWS || bytes > ARENA - used) {
                return false;
            }
            System.arraycopy(from, start, arena, used, bytes);
            at[size] = used;
            count[size] = bytes;
            used += bytes;
            size++;
            return true;
        }

        boolean addNumber(long value) {
            long rest = value < 0 ? -value : value;
            int bytes = 0;
            while (rest != 0 && bytes < 7) {
                digits[bytes] = (byte) rest;
                rest >>>= 8;
                bytes++;
            }
            if (bytes > 0 && digits[bytes - 1] < 0) {
                digits[bytes] = 0;
                bytes++;
            }
            if (value < 0) {
                digits[bytes - 1] |= (byte) 0x80;
            }
            return add(digits, 0, bytes);
        }

        boolean addFlag(boolean flag) {
            digits[0] = 1;
            return add(digits, 0, flag ? 1 : 0);
        }

        /** Takes so many away; callers have seen that they are there. */
        boolean drop(int elements) {
            size -= elements;
            return true;
        }

        /** A copy of the one that lies so deep. */
        boolean copy(int depth) {
            if (depth < 0 || depth >= size || size >= ROWS) {
                return false;
            }
            at[size] = at[size - 1 - depth];
            count[size] = count[size - 1 - depth];
            size++;
            return true;
        }

        /** The one that lies so deep comes to the top. */
        boolean lift(int depth) {
            if (depth < 0 || depth >= size) {
                return false;
            }
            int from = size - 1 - depth;
            int liftedAt = at[from];
            int liftedCount = count[from];
            System.arraycopy(at, from + 1, at, from, depth);
            System.arraycopy(count, from + 1, count, from, depth);
            at[size - 1] = liftedAt;
            count[size - 1] = liftedCount;
            return true;
        }

        boolean putAside() {
            if (size == 0 || otherSize >= ROWS) {
                return false;
            }
            size--;
            otherAt[otherSize] = at[size];
            otherCount[otherSize] = count[size];
            otherSize++;
            return true;
        }

        boolean takeBack() {
            if (otherSize == 0 || size >= ROWS) {
                return false;
            }
            otherSize--;
            at[size] = otherAt[otherSize];
            count[size] = otherCount[otherSize];
            size++;
            return true;
        }

        boolean isTopTrue() {
            if (size == 0) {
                return false;
            }
            int last = count[size - 1] - 1;
            int from = at[size - 1];
            for (int i = 0; i <= last; i++) {
                if (arena[from + i] != 0) {
                    return i != last || arena[from + i] != (byte) 0x80;
                }
            }
            return false;
        }

        boolean areTopTwoSame() {
            int bytes = count[size - 1];
            if (count[size - 2] != bytes) {
                return false;
            }
            for (int i = 0; i < bytes; i++) {
                if (arena[at[size - 1] + i] != arena[at[size - 2] + i]) {
                    return false;
                }
            }
            return true;
        }

        /** Whether there is one so deep with few enough bytes for a number. */
        boolean hasNumber(int depth, int most) {
            return depth < size && count[size - 1 - depth] <= most;
        }

        long number(int depth) {
            int bytes = count[size - 1 - depth];
            if (bytes == 0) {
                return 0;
            }
            long value = 0;
            for (int i = bytes - 1; i >= 0; i--) {
                value = value << 8 | arena[at[size - 1 - depth] + i] & 255;
            }
            long sign = 1L << 8 * bytes - 1;
            return (value & sign) == 0 ? value : -(value ^ sign);
        }
    }

    /** Runs scripts, and tells whether those of an input unlock an output. */
    private static final class Machine {
        private static final int MOST_BYTES = 520;
        private static final int MOST_OPERATIONS = 201;
        private static final int MOST_KEYS = 20;
        private static final int NUMBER_BYTES = 4;
        private static final int LOCK_BYTES = 5;
        private static final int LAST_PUSH = 78;
        private static final int LAST_CONSTANT = 96;
        private static final int MARK = 171;
        /** How many elements operations 107 .. 125 need. */
        private static final int[] NEEDED = {1, 0, 2, 2, 3, 4, 6, 4, 1, 0, 1, 1, 2, 2, 2, 2, 3, 2, 2};

        final byte[] signed = new byte[32];
        private final Hasher hasher;
        private final Curve curve;
        private final Stack stack = new Stack();
        private final boolean[] done = new boolean[MOST_OPERATIONS + 1];
        private final Buffer clean = new Buffer(TAPE_LIMIT);
        private final Buffer image = new Buffer(WIDE);
        private TxView view;
        private int input;
        private byte[] code;
        private int at;
        private int stop;
        private int begin;
        private int operations;
        private int open;
        private int closed;
        private int keyTop;
        private int keyCount;
        private int signatureTop;
        private int signatureCount;

        Machine(Hasher newHasher, Curve newCurve) {
            hasher = newHasher;
            curve = newCurve;
        }

        /** Where the bytes of a push begin, from its operation on; 1 for all others. */
        static int headSize(int op) {
            return op == 76 ? 2 : op == 77 ? 3 : op == 78 ? 5 : 1;
        }

        /** Where the operation behind this one begins; -1 if this one goes beyond the end. */
        static int after(byte[] from, int at, int end) {
            int op = from[at] & 255;
            int head = headSize(op);
            if (head > end - at) {
                return -1;
            }
            long bytes = op < 76 ? op : Buffer.number(from, at + 1, head - 1);
            return bytes > end - at - head ? -1 : at + head + (int) bytes;
        }

        static int asks(byte[] from, int start, int end) {
            int asks = 0;
            int at = start;
            for (int i = start; i < end && at >= 0 && at < end; i++) {
                int op = from[at] & 255;
                at = after(from, at, end);
                if (op >= 172 && op <= 175) {
                    asks += op < 174 ? 1 : 20;
                }
            }
            return asks;
        }

        /** Whether an input's script unlocks an output's. */
        boolean unlocks(TxView newView, int newInput, byte[] lock, int from, int bytes) {
            view = newView;
            input = newInput;
            stack.clear();
            int start = view.inputScript[input];
            int end = start + view.inputSize[input];
            if (!run(view.bytes, start, end)) {
                return false;
            }
            boolean hashed = bytes == 23 && lock[from] == (byte) 0xA9 && lock[from + 1] == 0x14
                    && lock[from + 22] == (byte) 0x87;
            if (hashed && (stack.size == 0 || !hasPushesAlone(view.bytes, start, end))) {
                return false;
            }
            int innerAt = hashed ? stack.at[stack.size - 1] : 0;
            int innerSize = hashed ? stack.count[stack.size - 1] : 0;
            if (!run(lock, from, from + bytes) || !stack.isTopTrue()) {
                return false;
            }
            if (!hashed) {
                return true;
            }
            // That script put one flag in the place of the top, so this is the stack without it.
            stack.drop(1);
            return run(stack.arena, innerAt, innerAt + innerSize) && stack.isTopTrue();
        }

        /** CODE of these bytes, without the pushes of so many signatures from the top one on. */
        void cleanCode(byte[] from, int start, int end, int signatures) {
            clean.clear();
            int pos = start;
            for (int i = start; i < end && pos < end; i++) {
                int next = after(from, pos, end);
                if (next < 0) {
                    break;
                }
                if ((from[pos] & 255) != MARK && !pushesSignature(from, pos, next, signatures)) {
                    clean.addBytes(from, pos, next - pos);
                }
                pos = next;
            }
            clean.addBytes(from, pos, end - pos);
        }

        /** The hash that is signed for an input, with the cleaned code. */
        void nameSigned(TxView of, int newInput, int type) {
            if (of.writeSigned(image, newInput, type, clean)) {
                hasher.sha(image.bytes, 0, image.length, signed, 0);
                hasher.sha(signed, 0, 32, signed, 0);
            } else {
                Arrays.fill(signed, (byte) 0);
                signed[0] = 1;
            }
        }

        private boolean run(byte[] script, int from, int till) {
            code = script;
            at = from;
            stop = till;
            begin = from;
            operations = 0;
            open = 0;
            closed = 0;
            stack.clearOther();
            for (int i = from; i < till && at < till; i++) {
                int next = after(code, at, stop);
                if (next < 0) {
                    return false;
                }
                int op = code[at] & 255;
                int data = at + headSize(op);
                at = next;
                if (!isAllowed(op, next - data)) {
                    return false;
                }
                boolean fine = true;
                if (op >= 99 && op <= 104) {
                    fine = branch(op);
                } else if (closed == 0) {
                    if (op <= LAST_PUSH) {
                        fine = stack.add(code, data, next - data);
                    } else if (op >= 172 && op <= 175) {
                        fine = ask(op);
                    } else if (op == 166 || op >= 168 && op <= 170) {
                        fine = hashTop(op);
                    } else {
                        fine = perform(op);
                    }
                }
                if (!fine || stack.isTooHigh()) {
                    return false;
                }
            }
            return open == 0;
        }

        /** What FAILS also where it is not done. */
        private boolean isAllowed(int op, int bytes) {
            if (op <= LAST_PUSH) {
                return bytes <= MOST_BYTES;
            }
            if (op > LAST_CONSTANT) {
                operations++;
            }
            boolean banned = op >= 126 && op <= 129 || op >= 131 && op <= 134 || op == 141 || op == 142
                    || op >= 149 && op <= 153 || op == 101 || op == 102;
            return operations <= MOST_OPERATIONS && !banned;
        }

        private static boolean hasPushesAlone(byte[] from, int start, int end) {
            int pos = start;
            for (int i = start; i < end && pos >= 0 && pos < end; i++) {
                if ((from[pos] & 255) > LAST_CONSTANT) {
                    return false;
                }
                pos = after(from, pos, end);
            }
            return pos >= 0;
        }

        private boolean branch(int op) {
            if (op == 99 || op == 100) {
                if (closed == 0 && stack.size == 0 || open >= done.length) {
                    return false;
                }
                done[open] = closed == 0 && stack.isTopTrue() == (op == 99);
                if (closed == 0) {
                    stack.drop(1);
                }
                closed += done[open] ? 0 : 1;
                open++;
                return true;
            }
            if (open == 0) {
                return false;
            }
            boolean was = done[open - 1];
            closed -= was ? 0 : 1;
            if (op == 104) {
                open--;
            } else {
                done[open - 1] = !was;
                closed += was ? 1 : 0;
            }
            return true;
        }

        private boolean perform(int op) {
            if (op == 79 || op >= 81 && op <= LAST_CONSTANT) {
                return stack.addNumber(op - 80);
            }
            if (op >= 107 && op <= 125) {
                return move(op);
            }
            if (op >= 139 && op <= 165) {
                return reckon(op);
            }
            switch (op) {
                case 105:
                    return verify();
                case 130:
                    return stack.size > 0 && stack.addNumber(stack.count[stack.size - 1]);
                case 135:
                    return compare();
                case 136:
                    return compare() && verify();
                case MARK:
                    begin = at;
                    return true;
                case 177:
                    return stack.hasNumber(0, LOCK_BYTES) && view.locksUntil(stack.number(0), input);
                default:
                    return op == 97 || op == 176 || op >= 178 && op <= 185;
            }
        }

        private boolean verify() {
            boolean yes = stack.isTopTrue();
            return yes && stack.drop(1);
        }

        private boolean compare() {
            if (stack.size < 2) {
                return false;
            }
            boolean same = stack.areTopTwoSame();
            return stack.drop(2) && stack.addFlag(same);
        }

        private boolean move(int op) {
            if (stack.size < NEEDED[op - 107]) {
                return false;
            }
            switch (op) {
                case 107:
                    return stack.putAside();
                case 108:
                    return stack.takeBack();
                case 109:
                    return stack.drop(2);
                case 110:
                    return stack.copy(1) && stack.copy(1);
                case 111:
                    return stack.copy(2) && stack.copy(2) && stack.copy(2);
                case 112:
                    return stack.copy(3) && stack.copy(3);
                case 113:
                    return stack.lift(5) && stack.lift(5);
                case 114:
                    return stack.lift(3) && stack.lift(3);
                case 115:
                    return !stack.isTopTrue() || stack.copy(0);
                case 116:
                    return stack.addNumber(stack.size);
                case 117:
                    return stack.drop(1);
                case 118:
                    return stack.copy(0);
                case 119:
                    return stack.lift(1) && stack.drop(1);
                case 120:
                    return stack.copy(1);
                case 121:
                case 122:
                    return moveByNumber(op == 121);
                case 123:
                    return stack.lift(2);
                case 124:
                    return stack.lift(1);
                default:
                    return stack.lift(1) && stack.copy(1);
            }
        }

        private boolean moveByNumber(boolean copied) {
            if (!stack.hasNumber(0, NUMBER_BYTES)) {
                return false;
            }
            int depth = (int) stack.number(0);
            stack.drop(1);
            return copied ? stack.copy(depth) : stack.lift(depth);
        }

        private boolean reckon(int op) {
            int taken = op < 147 ? 1 : op == 165 ? 3 : 2;
            for (int i = 0; i < taken; i++) {
                if (!stack.hasNumber(i, NUMBER_BYTES)) {
                    return false;
                }
            }
            long top = stack.number(0);
            long second = taken > 1 ? stack.number(1) : 0;
            long third = taken > 2 ? stack.number(2) : 0;
            stack.drop(taken);
            if (taken == 1) {
                return stack.addNumber(ofOne(op, top));
            }
            if (taken == 3) {
                return stack.addFlag(second <= third && third < top);
            }
            if (op == 147 || op == 148 || op == 163 || op == 164) {
                return stack.addNumber(ofTwo(op, second, top));
            }
            boolean holds = holds(op, second, top);
            return op == 157 ? holds : stack.addFlag(holds);
        }

        private static long ofOne(int op, long a) {
            switch (op) {
                case 139:
                    return a + 1;
                case 140:
                    return a - 1;
                case 143:
                    return -a;
                case 144:
                    return a < 0 ? -a : a;
                case 145:
                    return a == 0 ? 1 : 0;
                default:
                    return a != 0 ? 1 : 0;
            }
        }

        private static long ofTwo(int op, long a, long b) {
            switch (op) {
                case 147:
                    return a + b;
                case 148:
                    return a - b;
                case 163:
                    return a < b ? a : b;
                default:
                    return a > b ? a : b;
            }
        }

        private static boolean holds(int op, long a, long b) {
            switch (op) {
                case 154:
                    return a != 0 && b != 0;
                case 155:
                    return a != 0 || b != 0;
                case 156:
                case 157:
                    return a == b;
                case 158:
                    return a != b;
                case 159:
                    return a < b;
                case 160:
                    return a > b;
                case 161:
                    return a <= b;
                default:
                    return a >= b;
            }
        }

        private boolean hashTop(int op) {
            if (stack.size == 0) {
                return false;
            }
            byte[] arena = stack.arena;
            int from = stack.at[stack.size - 1];
            int bytes = stack.count[stack.size - 1];
            if (op == 166) {
                hasher.ripe(arena, from, bytes, signed, 0);
            } else {
                hasher.sha(arena, from, bytes, signed, 0);
            }
            if (op == 169) {
                hasher.ripe(signed, 0, 32, signed, 0);
            } else if (op == 170) {
                hasher.sha(signed, 0, 32, signed, 0);
            }
            return stack.drop(1) && stack.add(signed, 0, op == 166 || op == 169 ? 20 : 32);
        }

        /** Signatures against keys: one of each for 172 and 173, as many as told for 174 and 175. */
        private boolean ask(int op) {
            int taken = op < 174 ? gatherOne() : gatherMany();
            if (taken < 0) {
                return false;
            }
            cleanCode(code, begin, stop, signatureCount);
            int keys = keyCount;
            int signatures = signatureCount;
            for (int i = 0; i < MOST_KEYS && signatures > 0 && signatures <= keys; i++) {
                int key = keyTop - (keyCount - keys);
                int mine = signatureTop - (signatureCount - signatures);
                int last = stack.at[mine] + stack.count[mine] - 1;
                boolean good = stack.count[mine] > 0;
                if (good && !curve.takeSignature(stack.arena, stack.at[mine], stack.count[mine])) {
                    return false;
                }
                if (good && curve.takeKey(stack.arena, stack.at[key], stack.count[key])) {
                    nameSigned(view, input, stack.arena[last] & 255);
                    good = curve.weigh(signed);
                } else {
                    good = false;
                }
                if (good) {
                    curve.fillMultiples(Curve.KEYS);
                    curve.sum(true);
                    good = curve.sumHasR();
                }
                keys--;
                signatures -= good ? 1 : 0;
            }
            stack.drop(taken);
            return op == 173 || op == 175 ? signatures == 0 : stack.addFlag(signatures == 0);
        }

        /** Answers how many elements it takes, -1 if they are not there; likewise below. */
        private int gatherOne() {
            keyTop = stack.size - 1;
            keyCount = 1;
            signatureTop = stack.size - 2;
            signatureCount = 1;
            return stack.size < 2 ? -1 : 2;
        }

        private int gatherMany() {
            if (!stack.hasNumber(0, NUMBER_BYTES)) {
                return -1;
            }
            long keys = stack.number(0);
            if (keys < 0 || keys > MOST_KEYS) {
                return -1;
            }
            keyCount = (int) keys;
            keyTop = stack.size - 2;
            operations += keyCount;
            if (operations > MOST_OPERATIONS || !stack.hasNumber(keyCount + 1, NUMBER_BYTES)) {
                return -1;
            }
            long signatures = stack.number(keyCount + 1);
            if (signatures < 0 || signatures > keys) {
                return -1;
            }
            signatureCount = (int) signatures;
            signatureTop = keyTop - keyCount - 1;
            int taken = keyCount + signatureCount + 3;
            return stack.size < taken ? -1 : taken;
        }

        private boolean pushesSignature(byte[] from, int pos, int next, int signatures) {
            for (int i = 0; i < signatures; i++) {
                int bytes = stack.count[signatureTop - i];
                int head = bytes < 76 ? 1 : 2;
                boolean same = (from[pos] & 255) == (bytes < 76 ? bytes : 76) && next - pos - head == bytes;
                for (int k = 0; k < bytes && same; k++) {
                    same = from[pos + head + k] == stack.arena[stack.at[signatureTop - i] + k];
                }
                if (same) {
                    return true;
                }
            }
            return false;
        }
    }

    /** The blocks that are kept, and the coins behind each of them that has been connected. */
    private static final class Chain {
        private static final int SPAN = 8;
        private static final int TIMES = 11;
        private static final int MOST_ASKS = 60;
        private static final int MOST_COINS = 400;
        /** A transaction may bring 180 more before they are counted. */
        private static final int COIN_ROOM = MOST_COINS + 180;
        private static final int RIPE_AGE = 3;
        private static final int HALVING = 12;

        final Block[] blocks = new Block[MOST_KEPT + 1];
        final int[] path = new int[MOST_KEPT];
        final Target target = new Target();
        int kept;
        int best;
        private final Hasher hasher;
        private final Machine machine;
        private final TxView view;
        private final long[] times = new long[TIMES];
        private final byte[] root = new byte[32];
        private final int[] coinRow = new int[COIN_ROOM];
        private final int[] found = new int[40];
        private int coinCount;
        private long taken;

        Chain(Hasher newHasher, Machine newMachine, TxView newView) {
            hasher = newHasher;
            machine = newMachine;
            view = newView;
        }

        void keepFirst(Buffer tape) {
            Block first = new Block();
            first.read(tape, view, hasher);
            first.nameTransactions(hasher);
            target.take(first.bits());
            first.work = target.work();
            blocks[0] = first;
            kept = 1;
            addCoins(0, 0);
            first.coinRow = Arrays.copyOf(coinRow, coinCount);
        }

        /** Looks at all that can be seen without coins: 0, a reason, KNOWN or UNKNOWN. */
        int inspect(Buffer tape) {
            if (blocks[kept] == null) {
                blocks[kept] = new Block();
            }
            Block fresh = blocks[kept];
            if (!fresh.read(tape, view, hasher)) {
                return 1;
            }
            if (numberOf(fresh.hash, 0) >= 0) {
                return KNOWN;
            }
            if (!target.take(fresh.bits()) || !target.isReachedBy(fresh.hash)) {
                return 2;
            }
            fresh.parent = numberOf(fresh.bytes, 4);
            if (fresh.parent < 0) {
                return UNKNOWN;
            }
            fresh.height = blocks[fresh.parent].height + 1;
            int reason = refuseHeader(fresh);
            return reason != 0 ? reason : refuseTransactions(fresh);
        }

        /** Keeps the block that was inspected; answers its number. */
        int keep() {
            Block fresh = blocks[kept];
            target.take(fresh.bits());
            fresh.work = blocks[fresh.parent].work + target.work();
            kept++;
            return kept - 1;
        }

        /** Fills the path with the blocks from this one down that were never connected. */
        int climb(int top) {
            int steps = 0;
            for (int b = top; b >= 0 && steps < path.length && blocks[b].coinRow == null; b = blocks[b].parent) {
                path[steps] = b;
                steps++;
            }
            return steps;
        }

        /** Makes the coins behind a block of those behind its parent; answers the reason to refuse it. */
        int connect(int number) {
            Block fresh = blocks[number];
            startFrom(fresh.parent);
            long first = 0;
            long left = 0;
            for (int t = 0; t < fresh.count; t++) {
                view.read(fresh.bytes, fresh.starts[t], fresh.length);
                long paid = view.allValues();
                if (t == 0) {
                    first = paid;
                } else {
                    int refused = findCoins(fresh.height);
                    if (refused != 0 || taken < paid) {
                        return refused != 0 ? refused : 13;
                    }
                    for (int i = 0; i < view.inputs; i++) {
                        int coin = coinRow[found[i]];
                        byte[] from = blocks[blockOf(coin)].bytes;
                        if (!machine.unlocks(view, i, from, scriptAt(from, coin), scriptSize(from, coin))) {
                            return 14;
                        }
                    }
                    takeCoins();
                    left += taken - paid;
                }
                addCoins(number, t);
                if (coinCount > MOST_COINS) {
                    return 16;
                }
            }
            if (first > (FIRST_REWARD >> fresh.height / HALVING) + left) {
                return 15;
            }
            fresh.coinRow = Arrays.copyOf(coinRow, coinCount);
            return 0;
        }

        /** A block and all that are kept on it are bad; parents have lower numbers. */
        void spoil(int number) {
            blocks[number].bad = true;
            for (int b = number + 1; b < kept; b++) {
                if (blocks[blocks[b].parent].bad) {
                    blocks[b].bad = true;
                }
            }
        }

        /** 0 stored, 1 on the best chain, 2 bad. */
        int standing(int number) {
            if (blocks[number].bad) {
                return 2;
            }
            int b = best;
            for (int steps = 0; steps < kept && b > number; steps++) {
                b = blocks[b].parent;
            }
            return b == number ? 1 : 0;
        }

        int dueBits(int parent) {
            Block last = blocks[parent];
            if ((last.height + 1) % SPAN != 0) {
                return last.bits();
            }
            Block first = last;
            for (int i = 1; i < SPAN && first.parent >= 0; i++) {
                first = blocks[first.parent];
            }
            target.take(last.bits());
            target.stretch(last.time() - first.time());
            return target.asBits();
        }

        /** The MIDDLE of the times of a block and the ten before it. */
        long middle(int number) {
            int count = 0;
            for (int b = number; b >= 0 && count < TIMES; b = blocks[b].parent) {
                long time = blocks[b].time();
                int at = count;
                while (at > 0 && times[at - 1] > time) {
                    times[at] = times[at - 1];
                    at--;
                }
                times[at] = time;
                count++;
            }
            return times[count / 2];
        }

        /** The value of a coin behind the best chain, -1 if there is none. */
        long valueOf(byte[] id, int at, int index) {
            int[] coins = blocks[best].coinRow;
            int place = placeOf(coins, coins.length, id, at, index);
            return place < 0 ? -1 : value(coins[place]);
        }

        long allValues() {
            int[] coins = blocks[best].coinRow;
            long all = 0;
            for (int i = 0; i < coins.length; i++) {
                all += value(coins[i]);
            }
            return all;
        }

        private int refuseHeader(Block fresh) {
            if (blocks[fresh.parent].bad) {
                return 3;
            }
            if (fresh.bits() != dueBits(fresh.parent)) {
                return 4;
            }
            return fresh.time() <= middle(fresh.parent) ? 5 : 0;
        }

        private int refuseTransactions(Block fresh) {
            if (fresh.count == 0) {
                return 7;
            }
            fresh.nameTransactions(hasher);
            if (!hasItsRoot(fresh) || hasSameIds(fresh)) {
                return 6;
            }
            int asks = 0;
            for (int t = 0; t < fresh.count; t++) {
                view.read(fresh.bytes, fresh.starts[t], fresh.length);
                int refused = view.refusal(t == 0);
                if (refused != 0) {
                    return refused;
                }
                asks += view.asks();
            }
            if (asks > MOST_ASKS) {
                return 9;
            }
            for (int t = 0; t < fresh.count; t++) {
                view.read(fresh.bytes, fresh.starts[t], fresh.length);
                if (!view.isLast(fresh.height, fresh.time())) {
                    return 10;
                }
            }
            return 0;
        }

        private boolean hasItsRoot(Block fresh) {
            hasher.root(fresh.ids, fresh.count, root);
            return isSame(root, 0, fresh.bytes, 36);
        }

        private static boolean hasSameIds(Block fresh) {
            for (int a = 1; a < fresh.count; a++) {
                for (int b = 0; b < a; b++) {
                    if (isSame(fresh.ids, 32 * a, fresh.ids, 32 * b)) {
                        return true;
                    }
                }
            }
            return false;
        }

        /** The number of the block that is kept with this hash, -1 if there is none. */
        private int numberOf(byte[] hash, int at) {
            for (int b = 0; b < kept; b++) {
                if (isSame(blocks[b].hash, 0, hash, at)) {
                    return b;
                }
            }
            return -1;
        }

        private static boolean isSame(byte[] a, int aAt, byte[] b, int bAt) {
            for (int i = 0; i < 32; i++) {
                if (a[aAt + i] != b[bAt + i]) {
                    return false;
                }
            }
            return true;
        }

        private void startFrom(int parent) {
            coinCount = 0;
            if (parent >= 0 && blocks[parent].coinRow != null) {
                coinCount = blocks[parent].coinRow.length;
                System.arraycopy(blocks[parent].coinRow, 0, coinRow, 0, coinCount);
            }
        }

        /** Finds the coins of a transaction's inputs: 0, or the reason to refuse it. */
        private int findCoins(int height) {
            taken = 0;
            for (int i = 0; i < view.inputs; i++) {
                int at = view.inputAt[i];
                found[i] = placeOf(coinRow, coinCount, view.bytes, at, (int) Buffer.number(view.bytes, at + 32, 4));
                if (found[i] < 0) {
                    return 11;
                }
                int coin = coinRow[found[i]];
                if (transactionOf(coin) == 0 && height - blocks[blockOf(coin)].height < RIPE_AGE) {
                    return 12;
                }
                taken += value(coin);
                if (taken > MOST_VALUE) {
                    return 13;
                }
            }
            return 0;
        }

        private void takeCoins() {
            for (int i = 0; i < view.inputs; i++) {
                coinRow[found[i]] = -1;
            }
            int left = 0;
            for (int i = 0; i < coinCount; i++) {
                if (coinRow[i] >= 0) {
                    coinRow[left] = coinRow[i];
                    left++;
                }
            }
            coinCount = left;
        }

        private void addCoins(int number, int t) {
            for (int o = 0; o < view.outputs; o++) {
                int place = placeOf(coinRow, coinCount, blocks[number].ids, 32 * t, o);
                if (place < 0 && coinCount < COIN_ROOM) {
                    place = coinCount;
                    coinCount++;
                }
                if (place >= 0) {
                    coinRow[place] = number << 23 | t << 19 | o << 11 | view.outputAt[o];
                }
            }
        }

        /** Where the coin of this ID and index stands in a row of coins, -1 if it does not. */
        private int placeOf(int[] coins, int count, byte[] id, int at, int index) {
            for (int i = 0; i < count; i++) {
                int coin = coins[i];
                if (outputOf(coin) == index
                        && isSame(blocks[blockOf(coin)].ids, 32 * transactionOf(coin), id, at)) {
                    return i;
                }
            }
            return -1;
        }

        /** A coin is an int: 6 bits for its block, 4 its transaction, 8 its output, 11 where that lies. */
        private static int blockOf(int coin) {
            return coin >>> 23;
        }

        private static int transactionOf(int coin) {
            return coin >>> 19 & 15;
        }

        private static int outputOf(int coin) {
            return coin >>> 11 & 255;
        }

        private long value(int coin) {
            return Buffer.number(blocks[blockOf(coin)].bytes, coin & 2047, 8);
        }

        private static int scriptAt(byte[] from, int coin) {
            int at = (coin & 2047) + 8;
            return at + (from[at] == (byte) 253 ? 3 : 1);
        }

        private static int scriptSize(byte[] from, int coin) {
            int at = (coin & 2047) + 8;
            return from[at] == (byte) 253 ? (int) Buffer.number(from, at + 1, 2) : from[at] & 255;
        }
    }
}
