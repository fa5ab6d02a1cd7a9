import java.util.Arrays;

/** Promises 14 judge and 15 tell: its answers, the limit, and the reasons 2 .. 10 in their order. */
public final class JudgeTest {
    private static final byte[] EMPTY = Bench.EMPTY;
    private static final byte[] COIN_0 = Bench.COIN_0;
    private static final long MOST_VALUE = 2100000000000000L;

    private JudgeTest() {
    }

    public static void main(String[] args) {
        theTapeIsEmptyThen();
        reasonsStayUntilTheNext();
        knownBlocks();
        bitsWithoutATarget();
        hashesAboveTheTarget();
        unknownParents();
        badParents();
        bitsThatAreNotDue();
        timesAtTheMiddle();
        noTransactions();
        roots();
        rootsOfAllNumbers();
        sameIds();
        firstOnes();
        firstOnesInOrder();
        noInputNoOutput();
        values();
        scriptsOfFirstOnes();
        inputsOfOthers();
        asks();
        asksOfAllScripts();
        asksThatDoNotCount();
        locks();
        locksByTime();
        theLimit();
        theLimitCountsBadOnes();
        tellTellsAll();
        Check.end();
    }

    private static void theTapeIsEmptyThen() {
        Bench x = Bench.grown(1);
        x.tape("010203");
        Check.fails("refused", UnsupportedOperationException.class, () -> x.judge.judge());
        Check.same("the tape behind a refusal", x.judge.tell(0), 0);
        Check.fails("nothing is no block", UnsupportedOperationException.class, () -> x.judge.judge());
        Check.same("stored", x.add(0), 1);
        Check.same("the tape behind 1", x.judge.tell(0), 0);
        Check.same("on the best chain", x.add(1), 0);
        Check.same("the tape behind 0", x.judge.tell(0), 0);
        Check.same("known", x.judge(x.blocks.get(0)), 3);
        Check.same("the tape behind 3", x.judge.tell(0), 0);
        x.judge.seal(5);
        Check.same("unknown", x.judge.judge(), 4);
        Check.same("the tape behind 4", x.judge.tell(0), 0);
    }

    private static void reasonsStayUntilTheNext() {
        Bench x = Bench.grown(2);
        Check.same("no reason yet", x.judge.tell(1), 0);
        Check.same("a time of before", x.judge(x.block(2, 1)), -5);
        Check.same("stored", x.add(0), 1);
        Check.same("as much work", x.add(x.last()), 1);
        Check.same("another chain", x.add(x.last()), 2);
        Check.same("known", x.judge(x.blocks.get(0)), 3);
        x.judge.seal(5);
        Check.same("unknown", x.judge.judge(), 4);
        Check.same("on the best chain", x.add(x.last()), 0);
        Check.same("others leave the reason", x.judge.tell(1), 5);
        Check.same("bytes", x.judge(EMPTY), -1);
        Check.same("the latest one", x.judge.tell(1), 1);
        Wire.Tx greedy = Wire.firstTransaction(Wire.hex("0101"), 5000000001L);
        Check.same("one of a connection", x.addAll(x.last(), greedy), -15);
        Check.same("the latest one", x.judge.tell(1), 15);
    }

    private static void knownBlocks() {
        Bench x = Bench.grown(1);
        Check.same("block 0", x.judge(x.blocks.get(0)), 3);
        Check.same("block 1", x.judge(x.blocks.get(1)), 3);
        byte[] other = Wire.join(Arrays.copyOf(x.blocks.get(1), 80), Wire.hex("00"));
        Check.same("the head is enough", x.judge(other), 3);
        Check.same("but it must be a block", x.judge(Arrays.copyOf(x.blocks.get(1), 80)), -1);
        Check.same("stored", x.add(0), 1);
        Check.same("a stored one", x.judge(x.blocks.get(2)), 3);
        Wire.Tx greedy = Wire.firstTransaction(Wire.hex("0101"), 5000000001L);
        Check.same("refused", x.addAll(1, greedy), -15);
        Check.same("a bad one", x.judge(x.blocks.get(3)), 3);
        Check.same("kept once", x.judge.tell(2), 4);
        byte[] early = x.block(1, 1);
        Check.same("refused and not kept", x.judge(early), -5);
        Check.same("is not known", x.judge(early), -5);
    }

    private static byte[] withBits(Bench x, long bits) {
        Wire.Tx only = Wire.firstTransaction(Wire.hex("0101"), 1);
        return Wire.mined(1, x.hash(0), Wire.root(only.id()), 1000600, bits, Wire.EASIEST, true,
                Wire.join(Wire.count(1), only.bytes()));
    }

    /** Those of size 33 and 34 here would fit in 256 bits and be below the easiest, but for their size. */
    private static void bitsWithoutATarget() {
        long[] none = {0x20000000L, 0x20800000L, 0x20FFFFFFL, 0x1F800000L, 0x21000001L, 0x21007FFFL, 0x2100FFFFL,
            0x2200007FL, 0xFF7FFFFFL, 0, 0x00123456L, 0x007FFFFFL, 0x01003456L, 0x0100FFFFL, 0x02000056L, 0x020000FFL,
            0x03000000L, 0x04800001L, 0xA07FFFFFL};
        for (long bits : none) {
            Bench x = new Bench();
            Check.same("no target " + Long.toHexString(bits), x.judge(withBits(x, bits)), -2);
        }
        Bench x = new Bench();
        Check.same("a target that is not due", x.judge(withBits(x, 0x207FFFFEL)), -4);
    }

    private static void hashesAboveTheTarget() {
        long[] hard = {0x01123456L, 0x02123456L, 0x03000001L, 0x1D00FFFFL, 0x20000001L};
        for (long bits : hard) {
            Bench x = new Bench();
            Check.same("a hash above " + Long.toHexString(bits), x.judge(withBits(x, bits)), -2);
        }
        Bench x = new Bench();
        x.judge.seal(3);
        Check.same("a hash above the easiest", x.judge(x.tape()), -2);
        byte[] lost = Wire.mined(1, Wire.hex("77".repeat(32)), Wire.NO_HASH, 1, Wire.EASIEST, Wire.EASIEST, false,
                Wire.hex("00"));
        Check.same("before the parent is looked for", x.judge(lost), -2);
    }

    private static void unknownParents() {
        Bench x = new Bench();
        x.judge.seal(5);
        Check.same("no parent", x.judge(x.tape()), 4);
        byte[] lost = Wire.block(Wire.hex("77".repeat(32)), 1, 0x207FFFFEL);
        Check.same("before bits, time and transactions", x.judge(lost), 4);
        Check.same("nothing kept", x.judge.tell(2), 1);
        Check.same("no reason", x.judge.tell(1), 0);
        byte[] first = x.block(0, 1000600);
        byte[] second = Wire.block(Wire.hashOf(first), 1001200, Wire.EASIEST, x.first(0));
        Check.same("its parent comes later", x.judge(second), 4);
        Check.same("the parent", x.judge(first), 0);
        Check.same("now it is kept", x.judge(second), 0);
    }

    private static void badParents() {
        Bench x = Bench.grown(1);
        Check.same("too much", x.addAll(1, Wire.firstTransaction(Wire.hex("0101"), 5000000001L)), -15);
        Check.same("bad", x.judge.block(2, 2), 2);
        byte[] early = Wire.block(x.hash(2), 1, 0x207FFFFEL);
        Check.same("before bits, time and transactions", x.judge(early), -3);
        Check.same("on a bad one", x.add(2), -3);
        Check.same("not kept", x.judge.tell(2), 3);
        Check.same("the best one", x.judge.tell(3), 1);
    }

    private static void bitsThatAreNotDue() {
        Bench x = new Bench();
        Check.same("4 before 5", x.judge(Wire.block(x.hash(0), 1, 0x207FFFFEL)), -4);
        x.judge.open(0, 1000600);
        x.judge.seal(2);
        Check.same("spoilt bits", x.judge(x.tape()), -4);
        Check.same("nothing kept", x.judge.tell(2), 1);
    }

    private static void timesAtTheMiddle() {
        Bench x = new Bench();
        Check.same("the same time", x.judge(x.block(0, 1000000)), -5);
        Check.same("5 before 7", x.judge(Wire.block(x.hash(0), 1000000, Wire.EASIEST)), -5);
        Check.same("time 0", x.judge(x.block(0, 0)), -5);
        Check.same("a second more", x.judge(x.block(0, 1000001)), 0);
        // Times 1000000, 1000001: the middle is at 2 / 2, the higher one.
        Check.same("of two the higher", x.judge(x.block(1, 1000001)), -5);
        Check.same("above the higher", x.judge(x.block(1, 4000000000L)), 0);
        Check.same("the middle of three", x.judge.block(2, 8), 1000001);
        Check.same("below its parent", x.judge(x.block(2, 1000002)), 0);
        Check.same("the middle of four", x.judge.block(3, 8), 1000002);
        Check.same("the last time", x.judge(x.block(3, Wire.MOST)), 0);
    }

    private static void noTransactions() {
        Bench x = new Bench();
        Check.same("none, with its root", x.judge(Wire.block(x.hash(0), 1000600, Wire.EASIEST)), -7);
        byte[] other = Wire.hex("11".repeat(32));
        byte[] none = Wire.mined(1, x.hash(0), other, 1000600, Wire.EASIEST, Wire.EASIEST, true, Wire.hex("00"));
        Check.same("none, whatever the root", x.judge(none), -7);
    }

    private static byte[] withRoot(Bench x, byte[] root, Wire.Tx... all) {
        byte[] body = Wire.count(all.length);
        for (Wire.Tx tx : all) {
            body = Wire.join(body, tx.bytes());
        }
        int parent = x.last();
        return Wire.mined(1, x.hash(parent), root, x.nextTime(parent), Wire.EASIEST, Wire.EASIEST, true, body);
    }

    private static void roots() {
        Bench x = Bench.grown(3);
        Wire.Tx first = x.first(3);
        Wire.Tx spend = new Wire.Tx().in(COIN_0, 0, EMPTY, Wire.MOST).out(1, Bench.TRUE);
        byte[] root = Wire.root(first.id(), spend.id());
        for (int i = 0; i < 32; i += 31) {
            byte[] wrong = root.clone();
            wrong[i] ^= 1;
            Check.same("another byte " + i, x.judge(withRoot(x, wrong, first, spend)), -6);
        }
        Check.same("the other way round", x.judge(withRoot(x, Wire.root(spend.id(), first.id()), first, spend)), -6);
        Check.same("6 before 7", x.judge(withRoot(x, root, spend, first)), -6);
        x.judge.open(3, 1002400);
        x.judge.seal(1);
        Check.same("none is 7 before 6", x.judge(x.tape()), -7);
        Check.same("its root", x.judge(withRoot(x, root, first, spend)), 0);
    }

    private static void rootsOfAllNumbers() {
        for (int n = 1; n <= 12; n++) {
            Bench x = Bench.grown(3);
            Wire.Tx[] all = new Wire.Tx[n];
            all[0] = x.first(3);
            byte[] from = COIN_0;
            for (int t = 1; t < n; t++) {
                all[t] = new Wire.Tx().in(from, 0, EMPTY, Wire.MOST).out(5000000000L, Bench.TRUE);
                from = all[t].id();
            }
            Check.same(n + " transactions", x.addAll(3, all), 0);
            Check.same("told", x.judge.block(4, 5), n);
            Check.same("coins", x.judge.tell(5), 5);
        }
    }

    /** An odd row has its last one twice, so a block with it twice has the same root: that must not pass. */
    private static void sameIds() {
        Bench x = Bench.grown(3);
        Wire.Tx first = x.first(3);
        Wire.Tx a = new Wire.Tx().in(COIN_0, 0, EMPTY, Wire.MOST).out(1, Bench.TRUE);
        Wire.Tx b = new Wire.Tx().in(a, 0, EMPTY).out(1, Bench.TRUE);
        byte[] root = Wire.root(first.id(), a.id(), b.id());
        Check.same("the last one twice", x.judge(withRoot(x, root, first, a, b, b)), -6);
        Check.same("one in the middle", x.addAll(3, first, a, a, b), -6);
        Check.same("the first one", x.addAll(3, first, a, first), -6);
        Check.same("before 7", x.addAll(3, a, a), -6);
        Check.same("each once", x.addAll(3, first, a, b), 0);
        Check.same("another version of the block", x.judge(Wire.mined(2, x.hash(3), root, 1002400, Wire.EASIEST,
                Wire.EASIEST, true, Wire.join(Wire.count(3), first.bytes(), a.bytes(), b.bytes()))), 1);
    }

    private static void firstOnes() {
        Bench x = Bench.grown(3);
        Wire.Tx spend = new Wire.Tx().in(COIN_0, 0, EMPTY, Wire.MOST).out(1, Bench.TRUE);
        Check.same("no first one", x.addAll(3, spend), -7);
        Check.same("two first ones", x.add(3, x.first(3)), -7);
        Wire.Tx two = x.first(3).in(COIN_0, 0, EMPTY, Wire.MOST);
        Check.same("a first one of two", x.addAll(3, two), -7);
        Wire.Tx twice = x.first(3).in(Wire.NO_HASH, Wire.MOST, Wire.hex("0101"), 0);
        Check.same("a first one of NONE twice", x.addAll(3, twice), -7);
        for (long index : new long[] {0, Wire.MOST - 1, 0x7FFFFFFFL}) {
            Wire.Tx other = new Wire.Tx().in(Wire.NO_HASH, index, Wire.hex("0101"), Wire.MOST).out(1, Bench.TRUE);
            Check.same("index " + index, x.addAll(3, other), -7);
        }
        for (String id : new String[] {"00".repeat(31) + "01", "80" + "00".repeat(31)}) {
            Wire.Tx other = new Wire.Tx().in(Wire.hex(id), Wire.MOST, Wire.hex("0101"), 1).out(1, Bench.TRUE);
            Check.same("id " + id, x.addAll(3, other), -7);
        }
        Check.same("no input at first", x.addAll(3, new Wire.Tx().out(1, Bench.TRUE)), -7);
    }

    private static void firstOnesInOrder() {
        Bench x = Bench.grown(3);
        Wire.Tx noOutput = new Wire.Tx().in(Wire.NO_HASH, Wire.MOST, Wire.hex("0101"), Wire.MOST);
        Wire.Tx empty = new Wire.Tx();
        Check.same("7 of one before its 8", x.addAll(3, empty), -7);
        Check.same("7 of the second before 8 of the third", x.add(3, x.first(3), empty), -7);
        Check.same("8 of the second before 7 of the third", x.add(3, empty, x.first(3)), -8);
        Check.same("8 of the first before 7 of the second", x.addAll(3, noOutput, x.first(3)), -8);
    }

    private static void noInputNoOutput() {
        Bench x = Bench.grown(3);
        Check.same("no output", x.add(3, new Wire.Tx().in(COIN_0, 0, EMPTY, Wire.MOST)), -8);
        Check.same("no input", x.add(3, new Wire.Tx().out(1, EMPTY)), -8);
        Check.same("neither", x.add(3, new Wire.Tx()), -8);
        Check.same("a first one without output",
                x.addAll(3, new Wire.Tx().in(Wire.NO_HASH, Wire.MOST, Wire.hex("0101"), Wire.MOST)), -8);
    }

    private static void values() {
        long[][] wrong = {{-1}, {MOST_VALUE + 1}, {MOST_VALUE, 1}, {1, MOST_VALUE}, {1, -1}, {Long.MIN_VALUE},
            {Long.MAX_VALUE}, {Long.MAX_VALUE, Long.MAX_VALUE, 2}, {MOST_VALUE, MOST_VALUE, MOST_VALUE}};
        for (long[] values : wrong) {
            Bench x = Bench.grown(3);
            Wire.Tx spend = new Wire.Tx().in(COIN_0, 0, EMPTY, Wire.MOST);
            Wire.Tx first = new Wire.Tx().in(Wire.NO_HASH, Wire.MOST, Wire.hex("0101"), Wire.MOST);
            for (long value : values) {
                spend.out(value, Bench.TRUE);
                first.out(value, Bench.TRUE);
            }
            Check.same("values " + Arrays.toString(values), x.add(3, spend), -8);
            Check.same("of a first one " + Arrays.toString(values), x.addAll(3, first), -8);
        }
        Bench x = Bench.grown(3);
        Wire.Tx most = new Wire.Tx().in(COIN_0, 0, EMPTY, Wire.MOST).out(MOST_VALUE, EMPTY).out(0, EMPTY);
        Check.same("the most may be, but for its coin", x.add(3, most), -13);
        Wire.Tx sum = new Wire.Tx().in(COIN_0, 0, EMPTY, Wire.MOST).out(MOST_VALUE - 1, EMPTY).out(1, EMPTY);
        Check.same("summed up, too", x.add(3, sum), -13);
        Check.same("of a first one", x.addAll(3, Wire.firstTransaction(Wire.hex("0101"), MOST_VALUE)), -15);
    }

    private static void scriptsOfFirstOnes() {
        int[] sizes = {0, 1, 2, 100, 101};
        int[] want = {-8, -8, 0, 0, -8};
        for (int i = 0; i < sizes.length; i++) {
            Bench x = Bench.grown(1);
            Wire.Tx first = Wire.firstTransaction(new byte[sizes[i]], 9);
            Check.same("a first script of " + sizes[i], x.addAll(1, first), want[i]);
        }
        for (int size : new int[] {0, 1, 101}) {
            Bench x = Bench.grown(3);
            Wire.Tx spend = new Wire.Tx().in(COIN_0, 0, Wire.times(size, "51"), 0).out(1, EMPTY);
            Check.same("another's script of " + size, x.add(3, spend), 0);
        }
    }

    private static void inputsOfOthers() {
        Bench x = Bench.grown(3);
        Wire.Tx none = new Wire.Tx().in(COIN_0, 0, EMPTY, 0).in(Wire.NO_HASH, Wire.MOST, EMPTY, 0).out(1, EMPTY);
        Check.same("NONE behind another", x.add(3, none), -8);
        none = new Wire.Tx().in(Wire.NO_HASH, Wire.MOST, EMPTY, 0).in(COIN_0, 0, EMPTY, 0).out(1, EMPTY);
        Check.same("NONE before another", x.add(3, none), -8);
        Wire.Tx same = new Wire.Tx().in(COIN_0, 0, EMPTY, 0).in(COIN_0, 1, EMPTY, 0).in(COIN_0, 0, Bench.TRUE, 1);
        Check.same("one input twice", x.add(3, same.out(1, EMPTY)), -8);
        same = new Wire.Tx().in(COIN_0, 9, EMPTY, 0).in(COIN_0, 9, EMPTY, 0);
        Check.same("8 before 11", x.add(3, same.out(1, EMPTY)), -8);
        Wire.Tx other = new Wire.Tx().in(COIN_0, 0, EMPTY, 0).in(COIN_0, 1L << 24, EMPTY, 0).out(1, EMPTY);
        Check.same("another index is another one", x.add(3, other), -11);
        for (int i : new int[] {0, 31}) {
            byte[] near = COIN_0.clone();
            near[i] ^= 1;
            other = new Wire.Tx().in(COIN_0, 0, EMPTY, 0).in(near, 0, EMPTY, 0).out(1, EMPTY);
            Check.same("so is another ID, by its byte " + i, x.add(3, other), -11);
        }
        x = Bench.grown(4);
        Wire.Tx two = new Wire.Tx().in(COIN_0, 0, EMPTY, 0).in(x.id(1), 0, Bench.TRUE, 0).out(1, EMPTY);
        Check.same("another ID is another one", x.add(4, two), 0);
    }

    private static void asks() {
        String[] scripts = {"ac".repeat(60), "ac".repeat(61), "ad".repeat(60), "ad".repeat(61), "aeaeae", "aeaeaeac",
            "afafaf", "afafafad", "aeae" + "ac".repeat(20), "aeaf" + "ac".repeat(21)};
        for (int i = 0; i < scripts.length; i++) {
            Bench x = Bench.grown(1);
            Wire.Tx first = x.first(1).out(0, Wire.hex(scripts[i]));
            Check.same("asks of an output: " + scripts[i], x.addAll(1, first), i % 2 == 0 ? 0 : -9);
        }
    }

    private static void asksOfAllScripts() {
        Bench x = Bench.grown(3);
        Wire.Tx first = Wire.firstTransaction(Wire.times(30, "ac"), 1);
        Wire.Tx spend = new Wire.Tx().in(COIN_0, 0, Wire.hex("00 00 00 00 ae ac ac ac ac ac ac ac ac ac"), 0)
                .out(1, Wire.hex("ac"));
        Check.same("60 in all scripts", x.addAll(3, first, spend), -14);
        first = Wire.firstTransaction(Wire.times(30, "ac"), 1).out(1, Wire.hex("ac"));
        Check.same("61 in all scripts", x.addAll(3, first, spend), -9);
        first = Wire.firstTransaction(Wire.hex("0101"), 1).out(0, Wire.times(30, "ac")).out(0, Wire.times(30, "ad"));
        Wire.Tx plain = new Wire.Tx().in(COIN_0, 0, EMPTY, 0).out(1, EMPTY);
        Check.same("each one once", x.addAll(3, first, plain), 0);
        x = Bench.grown(3);
        Wire.Tx two = new Wire.Tx().in(COIN_0, 0, EMPTY, 0).in(COIN_0, 1, Wire.times(60, "ac"), 0).out(1, EMPTY);
        Check.same("each one of inputs once", x.add(3, two, plain), -11);
        first = Wire.firstTransaction(Wire.times(31, "ac"), 1);
        Check.same("8 before 9", x.addAll(3, first, spend, new Wire.Tx().out(1, EMPTY)), -8);
        Check.same("7 before 9", x.addAll(3, first, spend, x.first(3)), -7);
    }

    private static void asksThatDoNotCount() {
        String[] fine = {"4cac" + "ac".repeat(172) + "ac".repeat(60), "02acac" + "ac".repeat(60),
            "ac".repeat(60) + "05acacac", "ac".repeat(60) + "4c", "ac".repeat(60) + "4dac",
            "ac".repeat(60) + "4eacacac", "ac".repeat(60) + "4effffffffacac",
            "ab".repeat(61) + "b0".repeat(61) + "51".repeat(61)};
        String[] wrong = {"ac".repeat(61) + "4d", "006a" + "ac".repeat(61), "0063" + "ac".repeat(61),
            "ff" + "ac".repeat(61), "4c01ac" + "ac".repeat(61)};
        for (String script : fine) {
            Bench x = Bench.grown(1);
            Check.same(script, x.addAll(1, x.first(1).out(0, Wire.hex(script))), 0);
        }
        for (String script : wrong) {
            Bench x = Bench.grown(1);
            Check.same(script, x.addAll(1, x.first(1).out(0, Wire.hex(script))), -9);
        }
        Bench behind = Bench.grown(3);
        Wire.Tx spend = new Wire.Tx().in(COIN_0, 0, Wire.hex("0151"), 0xACACACACL).out(1, Wire.times(60, "ac"));
        Check.same("a byte behind a script", behind.add(3, spend), 0);
        byte[] inner = Wire.join(Wire.hex("0063"), Wire.times(70, "ac"), Wire.hex("6851"));
        int answer = Bench.spend(Wire.push(inner), Bench.lockOf(inner), 0, Wire.MOST);
        Check.same("70 in a pushed script that is done", answer, 0);
    }

    /** The answer to a block of height 4 of which transaction t has this lock. */
    private static int locked(long lock, long sequence, int t, long time) {
        Bench x = Bench.grown(3);
        Wire.Tx first = new Wire.Tx().in(Wire.NO_HASH, Wire.MOST, Wire.hex("0101"), sequence).out(1, EMPTY);
        Wire.Tx spend = new Wire.Tx().in(COIN_0, 0, EMPTY, sequence).out(1, EMPTY);
        (t == 0 ? first : spend).lock = lock;
        return x.judge(Wire.block(x.hash(3), time, Wire.EASIEST, first, spend));
    }

    private static void locks() {
        long[] locks = {0, 1, 3, 4, 5, 499999999, 500000000, Wire.MOST};
        int[] want = {0, 0, 0, -10, -10, -10, -10, -10};
        for (int i = 0; i < locks.length; i++) {
            for (int t = 0; t < 2; t++) {
                Check.same("lock " + locks[i], locked(locks[i], Wire.MOST - 1, t, 1002400), want[i]);
                Check.same("with last sequences " + locks[i], locked(locks[i], Wire.MOST, t, 1002400), 0);
            }
        }
        for (int lock = 0; lock < 3; lock++) {
            Bench low = new Bench();
            Wire.Tx only = new Wire.Tx().in(Wire.NO_HASH, Wire.MOST, Wire.hex("0101"), 0).out(1, EMPTY);
            only.lock = lock;
            Check.same("lock " + lock + " at height 1", low.addAll(0, only), lock == 0 ? 0 : -10);
        }
        Bench x = Bench.grown(3);
        Wire.Tx early = x.first(3);
        early.lock = 9;
        early.ins.set(0, new Wire.In(Wire.NO_HASH, Wire.MOST, Wire.hex("0101"), 0));
        Wire.Tx asking = new Wire.Tx().in(COIN_0, 0, EMPTY, 0).out(0, Wire.times(61, "ac"));
        Check.same("9 before 10", x.addAll(3, early, asking), -9);
        Check.same("8 before 10", x.addAll(3, early, new Wire.Tx()), -8);
        Wire.Tx mixed = new Wire.Tx().in(COIN_0, 0, EMPTY, Wire.MOST).in(COIN_0, 1, EMPTY, 1).out(1, EMPTY);
        mixed.lock = 9;
        Check.same("one sequence is not the last; 10 before 11", x.add(3, mixed), -10);
        mixed.ins.set(1, new Wire.In(COIN_0, 1, EMPTY, Wire.MOST));
        Check.same("all sequences are", x.add(3, mixed), -11);
    }

    private static void locksByTime() {
        Check.same("a time that has come", locked(500000000, 0, 1, 500000001), 0);
        Check.same("a time that is now", locked(500000001, 0, 1, 500000001), -10);
        Check.same("a time that comes", locked(500000002, 0, 1, 500000001), -10);
        Check.same("a height, whatever the time", locked(499999999, 0, 1, 500000001), -10);
        Check.same("of a first one", locked(500000001, 0, 0, 500000001), -10);
        Check.same("the last time but one", locked(Wire.MOST - 1, 0, 1, Wire.MOST), 0);
        Check.same("the last time", locked(Wire.MOST, 0, 1, Wire.MOST), -10);
    }

    private static void theLimit() {
        Bench x = Bench.grown(58);
        Check.same("on the 30th, stored: the 60th", x.add(30), 1);
        byte[] fine = x.block(58, x.nextTime(58));
        Check.same("one more", x.judge(fine), Bench.LIMIT);
        Check.same("the tape", x.judge.tell(0), 0);
        Check.same("not kept", x.judge.tell(2), 60);
        Check.same("no reason", x.judge.tell(1), 0);
        Check.same("known before", x.judge(x.blocks.get(59)), 3);
        Check.same("refused before", x.addAll(58, new Wire.Tx().out(1, EMPTY)), -7);
        Wire.Tx lost = new Wire.Tx().in(COIN_0, 9, EMPTY, 0).out(1, EMPTY);
        Check.same("but not connected", x.add(58, lost), Bench.LIMIT);
        Check.same("the reason stays", x.judge.tell(1), 7);
    }

    private static void theLimitCountsBadOnes() {
        Bench x = Bench.grown(57);
        Check.same("59th, a bad one", x.addAll(57, Wire.firstTransaction(Wire.hex("0101"), 5000000001L)), -15);
        Check.same("60th, a bad one", x.addAll(57, Wire.firstTransaction(Wire.hex("0202"), 5000000001L)), -15);
        Check.same("told", x.judge.tell(2), 60);
        Check.same("one more", x.add(57), Bench.LIMIT);
        Check.same("on a bad one", x.add(58), -3);
        x.judge.seal(5);
        Check.same("unknown before", x.judge.judge(), 4);
    }

    private static void tellTellsAll() {
        Bench x = Bench.grown(2);
        x.add(0);
        x.judge.open(0, 1);
        x.judge.tx(1, 0);
        x.tape("0102");
        Check.same("bytes of the tape", x.judge.tell(0), 2);
        Check.same("blocks", x.judge.tell(2), 4);
        Check.same("the best", x.judge.tell(3), 2);
        Check.same("its height", x.judge.tell(4), 2);
        Check.same("coins", x.judge.tell(5), 3);
        Check.same("transactions of the draft", x.judge.tell(6), 1);
        Check.outOfRange("-1", () -> x.judge.tell(-1));
        Check.outOfRange("7", () -> x.judge.tell(7));
    }
}
