import java.util.Arrays;

/** Promises 14 judge and 15 tell: every answer and every reason, in their order. */
public final class JudgeTest {
    private static final byte[] EMPTY = new byte[0];
    private static final byte[] COIN_0 = Wire.firstTransaction(Wire.hex("0000"), 5000000000L).id();
    private static final long MOST_VALUE = 2100000000000000L;

    private JudgeTest() {
    }

    public static void main(String[] args) {
        theTapeIsEmptyThen();
        bytesThatAreNoBlock();
        countsInTheShortestForm();
        fullTapes();
        knownBlocks();
        targetsAndHashes();
        unknownParents();
        badParents();
        bitsAndTimes();
        rootsAndSameIds();
        shapesOfTransactions();
        valuesAndInputs();
        asks();
        locks();
        spending();
        rewards();
        tooManyCoins();
        theLimit();
        tellRefusesOthers();
        Check.end();
    }

    private static void theTapeIsEmptyThen() {
        Bench x = new Bench();
        Check.same("no reason yet", x.judge.tell(1), 0);
        x.tape("010203");
        Check.fails("refused", UnsupportedOperationException.class, () -> x.judge.judge());
        Check.same("the tape", x.judge.tell(0), 0);
        Check.same("the reason", x.judge.tell(1), 1);
        Check.same("plain", x.add(0), 0);
        Check.same("others leave the reason", x.judge.tell(1), 1);
        Check.same("known", x.judge(x.blocks.get(0)), 3);
        Check.same("others leave the reason", x.judge.tell(1), 1);
        Check.same("the tape", x.judge.tell(0), 0);
    }

    private static void bytesThatAreNoBlock() {
        Bench x = new Bench();
        byte[] fine = x.block(0, 1000600);
        Check.same("nothing", x.judge(EMPTY), -1);
        for (int n = 79; n < fine.length; n++) {
            Check.same("cut at " + n, x.judge(Arrays.copyOf(fine, n)), -1);
        }
        Check.same("one more byte", x.judge(Arrays.copyOf(fine, fine.length + 1)), -1);
        byte[] head = Arrays.copyOf(fine, 80);
        Check.same("13 transactions", x.judge(Wire.join(head, Wire.hex("0d"), new byte[130])), -1);
        Check.same("12 transactions of nothing", x.judge(Wire.join(head, Wire.hex("0c"), new byte[120])), -6);
        Check.same("nothing kept", x.judge.tell(2), 1);
        Check.same("as it was", x.judge(fine), 0);
    }

    private static byte[] body(String inputs, String scriptSize, String outputs) {
        return Wire.join(Wire.hex("01 01000000" + inputs), Wire.NO_HASH, Wire.hex("ffffffff" + scriptSize + "0102"),
                Wire.hex("ffffffff" + outputs + "0100000000000000 00 00000000"));
    }

    /** Reason 6 tells that the bytes were read: the root is that of others. */
    private static void countsInTheShortestForm() {
        Bench x = new Bench();
        byte[] head = Arrays.copyOf(x.block(0, 1000600), 80);
        Check.same("shortest", x.judge(Wire.join(head, body("01", "02", "01"))), -6);
        String[] longer = {"fd0100", "fe01000000", "ff0100000000000000"};
        for (String one : longer) {
            Check.same("inputs " + one, x.judge(Wire.join(head, body(one, "02", "01"))), -1);
            Check.same("outputs " + one, x.judge(Wire.join(head, body("01", "02", one))), -1);
            String two = one.replaceFirst("01", "02");
            Check.same("script " + two, x.judge(Wire.join(head, body("01", two, "01"))), -1);
        }
        Check.same("transactions", x.judge(Wire.join(head, Wire.hex("fd0100"),
                Arrays.copyOfRange(body("01", "02", "01"), 1, 200))), -1);
        String[] huge = {"fdffff", "feffffffff", "ffffffffffffffffff", "ff00000000000000ff"};
        for (String count : huge) {
            Check.same("inputs " + count, x.judge(Wire.join(head, body(count, "02", "01"))), -1);
            Check.same("script " + count, x.judge(Wire.join(head, body("01", count, "01"))), -1);
            Check.same("outputs " + count, x.judge(Wire.join(head, body("01", "02", count))), -1);
        }
        byte[] tx252 = new Wire.Tx().in(Wire.NO_HASH, Wire.MOST, new byte[252], 0).out(1, EMPTY).bytes();
        byte[] tx253 = new Wire.Tx().in(Wire.NO_HASH, Wire.MOST, new byte[253], 0).out(1, EMPTY).bytes();
        Check.same("252", x.judge(Wire.join(head, Wire.hex("01"), tx252)), -6);
        Check.same("253", x.judge(Wire.join(head, Wire.hex("01"), tx253)), -6);
        byte[] wrong = tx253.clone();
        wrong[42]--;
        Check.same("252 as 253", x.judge(Wire.join(head, Wire.hex("01"), Arrays.copyOf(wrong, wrong.length - 1))), -1);
    }

    /** The end of a tape without room for more comes at every place of a transaction. */
    private static void fullTapes() {
        Bench x = new Bench();
        byte[] head = Arrays.copyOf(x.block(0, 1000600), 80);
        for (int size = 1380; size < 1480; size++) {
            Wire.Tx long1 = new Wire.Tx().in(Wire.NO_HASH, Wire.MOST, new byte[size], 0).out(1, Wire.times(3, "fd"));
            byte[] all = Wire.join(head, Wire.hex("01"), long1.bytes(), Wire.times(200, "fd"));
            int want = 81 + long1.bytes().length == 1600 ? -6 : -1;
            Check.same("a script of " + size, x.judge(Arrays.copyOf(all, 1600)), want);
            Wire.Tx long2 = new Wire.Tx().in(Wire.NO_HASH, Wire.MOST, new byte[size - 50], 0);
            all = Wire.join(head, Wire.hex("01"), Arrays.copyOf(long2.bytes(), 48 + size - 50), Wire.times(200, "fd"));
            Check.same("long counts behind " + size, x.judge(Arrays.copyOf(all, 1600)), -1);
        }
        for (int size = 1470; size < 1490; size++) {
            Wire.Tx long3 = new Wire.Tx().in(Wire.NO_HASH, Wire.MOST, new byte[size - 11], 0).out(1, Wire.hex("51"));
            byte[] all = Wire.join(head, Wire.hex("01"), long3.bytes(), new byte[200]);
            int want = 81 + long3.bytes().length == 1600 ? -6 : -1;
            Check.same("a script before the end: " + size, x.judge(Arrays.copyOf(all, 1600)), want);
        }
    }

    private static void knownBlocks() {
        Bench x = Bench.grown(1);
        Check.same("block 0", x.judge(x.blocks.get(0)), 3);
        Check.same("block 1", x.judge(x.blocks.get(1)), 3);
        byte[] other = Wire.join(Arrays.copyOf(x.blocks.get(1), 80), Wire.hex("00"));
        Check.same("the head is enough", x.judge(other), 3);
        Check.same("but it must be a block", x.judge(Arrays.copyOf(x.blocks.get(1), 80)), -1);
        Wire.Tx greedy = Wire.firstTransaction(Wire.hex("0101"), 5000000001L);
        Check.same("refused", x.addAll(1, greedy), -15);
        Check.same("kept all the same", x.judge.tell(2), 3);
        Check.same("and known", x.judge(x.blocks.get(2)), 3);
    }

    private static byte[] withBits(Bench x, long bits) {
        Wire.Tx only = Wire.firstTransaction(Wire.hex("0101"), 1);
        return Wire.mined(1, x.hash(0), Wire.root(only.id()), 1000600, bits, Wire.EASIEST, true,
                Wire.join(Wire.count(1), only.bytes()));
    }

    private static void targetsAndHashes() {
        Bench x = new Bench();
        long[] none = {0x20000000L, 0x20800000L, 0x20FFFFFFL, 0x21000001L, 0x2100FFFFL, 0xFF7FFFFFL, 0, 0x00123456L,
            0x01003456L, 0x02000056L, 0x03000000L, 0x04800001L};
        for (long bits : none) {
            Check.same("no target " + Long.toHexString(bits), x.judge(withBits(x, bits)), -2);
        }
        long[] hard = {0x01123456L, 0x02123456L, 0x03000001L, 0x1D00FFFFL, 0x20000001L};
        for (long bits : hard) {
            Check.same("a hash above " + Long.toHexString(bits), x.judge(withBits(x, bits)), -2);
        }
        Check.same("bits that are not due", x.judge(withBits(x, 0x207FFFFEL)), -4);
        x.judge.open(0, 1000600);
        x.judge.seal(3);
        Check.same("a hash above the easiest", x.judge(x.tape()), -2);
        Wire.Tx only = Wire.firstTransaction(Wire.hex("0101"), 1);
        byte[] lost = Wire.mined(1, Wire.hex("77".repeat(32)), Wire.NO_HASH, 1, Wire.EASIEST, Wire.EASIEST, false,
                Wire.join(Wire.count(1), only.bytes()));
        Check.same("before the parent", x.judge(lost), -2);
    }

    private static void unknownParents() {
        Bench x = new Bench();
        x.judge.seal(5);
        Check.same("no parent", x.judge(x.tape()), 4);
        byte[] lost = Wire.block(Wire.hex("77".repeat(32)), 1, 0x207FFFFEL);
        Check.same("before all behind it", x.judge(lost), 4);
        Check.same("nothing kept", x.judge.tell(2), 1);
        Check.same("no reason", x.judge.tell(1), 0);
    }

    private static void badParents() {
        Bench x = Bench.grown(1);
        Check.same("too much", x.addAll(1, Wire.firstTransaction(Wire.hex("0101"), 5000000001L)), -15);
        Check.same("bad", x.judge.block(2, 2), 2);
        byte[] early = Wire.block(x.hash(2), 1, 0x207FFFFEL);
        Check.same("before bits, time and transactions", x.judge(early), -3);
        Check.same("on a bad one", x.add(2), -3);
        Check.same("not kept", x.judge.tell(2), 3);
        Check.same("the best one", x.judge.tell(3), 1);
    }

    private static void bitsAndTimes() {
        Bench x = new Bench();
        Check.same("4 before 5", x.judge(Wire.block(x.hash(0), 1, 0x207FFFFEL)), -4);
        x.judge.open(0, 1000600);
        x.judge.seal(2);
        Check.same("spoilt bits", x.judge(x.tape()), -4);
        Check.same("the same time", x.judge(x.block(0, 1000000)), -5);
        Check.same("5 before 7", x.judge(Wire.block(x.hash(0), 1000000, Wire.EASIEST)), -5);
        Check.same("a second more", x.judge(x.block(0, 1000001)), 0);
        // Times 1000000, 1000001: the middle is at 2 / 2, the higher one.
        Check.same("of two the higher", x.judge(x.block(1, 1000001)), -5);
        Check.same("above the higher", x.judge(x.block(1, 4000000000L)), 0);
        Check.same("the middle of three", x.judge.block(2, 8), 1000001);
        Check.same("below its parent", x.judge(x.block(2, 1000002)), 0);
        Check.same("the middle of four", x.judge.block(3, 8), 1000002);
        Check.same("the last time", x.judge(x.block(3, Wire.MOST)), 0);
    }

    private static void rootsAndSameIds() {
        Bench x = Bench.grown(3);
        Wire.Tx first = x.first(3);
        Wire.Tx spend = new Wire.Tx().in(COIN_0, 0, EMPTY, Wire.MOST).out(1, Bench.TRUE);
        byte[] fine = Wire.block(x.hash(3), 1002400, Wire.EASIEST, first, spend);
        byte[] wrong = Wire.root(first.id(), spend.id(), first.id());
        byte[] body = Wire.join(Wire.count(2), first.bytes(), spend.bytes());
        Check.same("another root", x.judge(
                Wire.mined(1, x.hash(3), wrong, 1002400, Wire.EASIEST, Wire.EASIEST, true, body)), -6);
        Check.same("one id twice", x.judge(Wire.block(x.hash(3), 1002400, Wire.EASIEST, first, spend, spend)), -6);
        Check.same("first ones twice", x.judge(Wire.block(x.hash(3), 1002400, Wire.EASIEST, first, spend, first)), -6);
        Check.same("6 before 7", x.judge(Wire.block(x.hash(3), 1002400, Wire.EASIEST, spend, spend)), -6);
        byte[] none = Wire.mined(1, x.hash(3), wrong, 1002400, Wire.EASIEST, Wire.EASIEST, true, Wire.hex("00"));
        Check.same("none is 7, whatever the root", x.judge(none), -7);
        byte[] root = Wire.root(first.id(), spend.id());
        Check.same("version 2", x.judge(
                Wire.mined(2, x.hash(3), root, 1002400, Wire.EASIEST, Wire.EASIEST, true, body)), 0);
        Check.same("the same with version 1", x.judge(fine), 1);
        manyTransactions();
    }

    /** Roots of 1 .. 12 IDs. */
    private static void manyTransactions() {
        for (int n = 1; n <= 12; n++) {
            Bench x = Bench.grown(3);
            Wire.Tx[] all = new Wire.Tx[n];
            all[0] = x.first(3);
            byte[] from = COIN_0;
            for (int t = 1; t < n; t++) {
                all[t] = new Wire.Tx().in(from, 0, EMPTY, Wire.MOST).out(5000000000L, Bench.TRUE);
                from = all[t].id();
            }
            Check.same(n + " transactions", x.addAll(3, all), 0);
            Check.same("told", x.judge.block(4, 5), n);
            Check.same("coins", x.judge.tell(5), 5);
        }
    }

    private static void shapesOfTransactions() {
        Bench x = Bench.grown(3);
        Wire.Tx spend = new Wire.Tx().in(COIN_0, 0, EMPTY, Wire.MOST).out(1, Bench.TRUE);
        Check.same("no first one", x.addAll(3, spend), -7);
        Check.same("two first ones", x.add(3, x.first(3)), -7);
        Wire.Tx two = x.first(3).in(COIN_0, 0, EMPTY, Wire.MOST);
        Check.same("a first one of two", x.addAll(3, two), -7);
        Wire.Tx index = new Wire.Tx().in(Wire.NO_HASH, 0, Wire.hex("0101"), Wire.MOST).out(1, Bench.TRUE);
        Check.same("another index", x.addAll(3, index), -7);
        byte[] one = Wire.hex("00".repeat(31) + "01");
        Wire.Tx id = new Wire.Tx().in(one, Wire.MOST, Wire.hex("0101"), 1).out(1, Bench.TRUE);
        Check.same("another id", x.addAll(3, id), -7);
        Check.same("no input at first", x.addAll(3, new Wire.Tx().out(1, Bench.TRUE)), -7);
        Wire.Tx noOutput = new Wire.Tx().in(Wire.NO_HASH, Wire.MOST, Wire.hex("0101"), Wire.MOST);
        Check.same("7 of the second before 8 of the third", x.add(3, x.first(3), noOutput), -7);
        Check.same("8 of the first before 7 of the second", x.addAll(3, noOutput, x.first(3)), -8);
    }

    private static void valuesAndInputs() {
        Bench x = Bench.grown(3);
        Check.same("no output", x.add(3, new Wire.Tx().in(COIN_0, 0, EMPTY, Wire.MOST)), -8);
        Check.same("no input", x.add(3, new Wire.Tx().out(1, EMPTY)), -8);
        Check.same("a first one without output",
                x.addAll(3, new Wire.Tx().in(Wire.NO_HASH, Wire.MOST, Wire.hex("0101"), Wire.MOST)), -8);
        long[][] wrong = {{-1}, {MOST_VALUE + 1}, {MOST_VALUE, 1}, {1, -1}, {Long.MIN_VALUE}, {Long.MAX_VALUE},
            {MOST_VALUE, MOST_VALUE, MOST_VALUE}};
        for (long[] values : wrong) {
            Wire.Tx spend = new Wire.Tx().in(COIN_0, 0, EMPTY, Wire.MOST);
            for (long value : values) {
                spend.out(value, Bench.TRUE);
            }
            Check.same("values " + Arrays.toString(values), x.add(3, spend), -8);
        }
        Wire.Tx most = new Wire.Tx().in(COIN_0, 0, EMPTY, Wire.MOST).out(MOST_VALUE, EMPTY).out(0, EMPTY);
        Check.same("the most is too much for its coin alone", x.add(3, most), -13);
        int[] sizes = {0, 1, 2, 100, 101};
        int[] want = {-8, -8, 0, 0, -8};
        for (int i = 0; i < sizes.length; i++) {
            Bench y = Bench.grown(1);
            Wire.Tx first = Wire.firstTransaction(new byte[sizes[i]], 9);
            Check.same("a first script of " + sizes[i], y.addAll(1, first), want[i]);
        }
        Wire.Tx none = new Wire.Tx().in(COIN_0, 0, EMPTY, 0).in(Wire.NO_HASH, Wire.MOST, EMPTY, 0).out(1, EMPTY);
        Check.same("NONE among others", x.add(3, none), -8);
        Wire.Tx same = new Wire.Tx().in(COIN_0, 0, EMPTY, 0).in(COIN_0, 1, EMPTY, 0).in(COIN_0, 0, Bench.TRUE, 1);
        Check.same("one input twice", x.add(3, same.out(1, EMPTY)), -8);
        Wire.Tx other = new Wire.Tx().in(COIN_0, 0, EMPTY, 0).in(COIN_0, 256, EMPTY, 0).out(1, EMPTY);
        Check.same("another index is another one", x.add(3, other), -11);
    }

    private static void asks() {
        String[] scripts = {"ac".repeat(60), "ac".repeat(61), "ad".repeat(60), "ad".repeat(61), "aeae ae", "aeaeaeac",
            "afafaf", "afafafad", "4cac" + "ac".repeat(172) + "ac".repeat(60), "02acac" + "ac".repeat(60),
            "ac".repeat(60) + "05acacac", "ac".repeat(61) + "4d", "006a" + "ac".repeat(61),
            "ab".repeat(61) + "b0".repeat(61)};
        int[] want = {0, -9, 0, -9, 0, -9, 0, -9, 0, 0, 0, -9, -9, 0};
        for (int i = 0; i < scripts.length; i++) {
            Bench x = Bench.grown(1);
            Wire.Tx first = x.first(1).out(0, Wire.hex(scripts[i]));
            Check.same("asks of an output: " + i, x.addAll(1, first), want[i]);
        }
        Bench x = Bench.grown(3);
        Wire.Tx first = Wire.firstTransaction(Wire.times(30, "ac"), 1);
        Wire.Tx spend = new Wire.Tx().in(COIN_0, 0, Wire.hex("00 00 00 00 ae ac ac ac ac ac ac ac ac ac ac"), 0);
        Check.same("60 in all scripts", x.addAll(3, first, spend.out(1, EMPTY)), -14);
        first = Wire.firstTransaction(Wire.times(30, "ac"), 1).out(1, Wire.hex("ac"));
        Check.same("61 in all scripts", x.addAll(3, first, spend), -9);
        byte[] inner = Wire.join(Wire.push(Wire.times(100, "ac")), Wire.times(60, "ac"));
        Check.same("those in a push do not count", Bench.grown(1).addAll(1, x.first(1).out(0, inner)), 0);
        Check.same("8 before 9", x.addAll(3, first, spend, new Wire.Tx().out(1, EMPTY)), -8);
    }

    private static void locks() {
        long[] locks = {0, 3, 4, 5, 499999999, 500000000, Wire.MOST};
        int[] want = {0, 0, -10, -10, -10, -10, -10};
        for (int i = 0; i < locks.length; i++) {
            for (int t = 0; t < 2; t++) {
                Check.same("lock " + locks[i], locked(locks[i], Wire.MOST - 1, t, 1002400), want[i]);
                Check.same("with last sequences " + locks[i], locked(locks[i], Wire.MOST, t, 1002400), 0);
            }
        }
        Check.same("a time that has come", locked(500000000, 0, 1, 500000001), 0);
        Check.same("a time that is now", locked(500000001, 0, 1, 500000001), -10);
        Bench x = Bench.grown(3);
        Wire.Tx early = x.first(3);
        early.lock = 9;
        early.ins.set(0, new Wire.In(Wire.NO_HASH, Wire.MOST, Wire.hex("0101"), 0));
        early.out(0, Wire.times(61, "ac"));
        Check.same("9 before 10", x.addAll(3, early), -9);
        Wire.Tx mixed = new Wire.Tx().in(COIN_0, 0, EMPTY, Wire.MOST).in(COIN_0, 1, EMPTY, 1).out(1, EMPTY);
        mixed.lock = 9;
        Check.same("one sequence is not the last", x.add(3, mixed), -10);
    }

    /** A block of height 4 in which a transaction has this lock. */
    private static int locked(long lock, long sequence, int t, long time) {
        Bench x = Bench.grown(3);
        Wire.Tx first = new Wire.Tx().in(Wire.NO_HASH, Wire.MOST, Wire.hex("0101"), sequence).out(1, EMPTY);
        Wire.Tx spend = new Wire.Tx().in(COIN_0, 0, EMPTY, sequence).out(1, EMPTY);
        (t == 0 ? first : spend).lock = lock;
        return x.judge(Wire.block(x.hash(3), time, Wire.EASIEST, first, spend));
    }

    private static void spending() {
        Bench x = Bench.grown(3);
        Wire.Tx spend = new Wire.Tx().in(COIN_0, 0, EMPTY, Wire.MOST).out(3, Bench.TRUE).out(4, Bench.TRUE);
        Wire.Tx lost = new Wire.Tx().in(COIN_0, 1, EMPTY, Wire.MOST).out(1, EMPTY);
        Check.same("no such coin", x.add(3, lost), -11);
        x = Bench.grown(3);
        Wire.Tx later = new Wire.Tx().in(spend, 1, EMPTY).out(4, EMPTY);
        Check.same("a coin of the block, from behind", x.add(3, later, spend), -11);
        Check.same("from before", x.add(3, spend, later), 0);
        Check.same("spent", x.judge.coin(0, 0, 0), -1);
        Check.same("left", x.judge.coin(5, 1, 0), 3);
        Wire.Tx again = new Wire.Tx().in(COIN_0, 0, EMPTY, 7).out(1, EMPTY);
        Check.same("spent before", x.add(5, again), -11);
        Check.same("spent twice in one block", Bench.grown(3).add(3, spend, again), -11);
        young();
        values();
        order();
    }

    private static void young() {
        for (int height = 1; height <= 4; height++) {
            Bench x = Bench.grown(height - 1);
            Wire.Tx spend = new Wire.Tx().in(COIN_0, 0, EMPTY, Wire.MOST).out(1, EMPTY);
            Check.same("block 0's coin at height " + height, x.add(height - 1, spend), height < 3 ? -12 : 0);
        }
        Bench x = Bench.grown(3);
        Wire.Tx first = x.first(3);
        Check.same("its own first one", x.addAll(3, first, new Wire.Tx().in(first, 0, EMPTY).out(1, EMPTY)), -12);
    }

    private static void values() {
        Bench x = Bench.grown(4);
        Wire.Tx spend = new Wire.Tx().in(COIN_0, 0, EMPTY, Wire.MOST).out(5000000001L, EMPTY);
        Check.same("less than the outputs", x.add(4, spend), -13);
        spend = new Wire.Tx().in(COIN_0, 0, EMPTY, Wire.MOST).out(5000000000L, EMPTY).out(0, EMPTY);
        Check.same("just the outputs", x.add(4, spend), 0);
        Check.same("an output of 0 is a coin", x.judge.coin(6, 1, 1), 0);
    }

    /** 11, 12 and 13 go input by input; then the sum, then the scripts. */
    private static void order() {
        Bench x = Bench.grown(4);
        byte[] young = Wire.twice(Arrays.copyOfRange(x.blocks.get(4), 81, x.blocks.get(4).length));
        byte[] fail = Wire.hex("6a");
        Wire.Tx a = new Wire.Tx().in(young, 0, EMPTY, 0).in(COIN_0, 9, EMPTY, 0).out(1, EMPTY);
        Check.same("12 of the first input", x.add(4, a), -12);
        Wire.Tx b = new Wire.Tx().in(COIN_0, 9, EMPTY, 0).in(young, 0, EMPTY, 0).out(1, EMPTY);
        Check.same("11 of the first input", x.add(4, b), -11);
        Wire.Tx c = new Wire.Tx().in(COIN_0, 0, fail, 0).in(young, 0, EMPTY, 0).out(1, EMPTY);
        Check.same("12 before 14", x.add(4, c), -12);
        Wire.Tx d = new Wire.Tx().in(COIN_0, 0, fail, 0).out(5000000001L, EMPTY);
        Check.same("13 before 14", x.add(4, d), -13);
        Wire.Tx e = new Wire.Tx().in(COIN_0, 0, fail, 0).out(1, EMPTY);
        Check.same("14", x.add(4, e), -14);
        Wire.Tx f = new Wire.Tx().in(COIN_0, 0, EMPTY, 0).out(1, EMPTY);
        Check.same("14 of one before 11 of the next", x.add(4, e, b), -14);
        Check.same("11 of one behind a fine one", x.add(4, f, b), -11);
        Wire.Tx greedy = Wire.firstTransaction(Wire.hex("0101"), 6000000000000L);
        Check.same("14 before 15", x.addAll(4, greedy, e), -14);
        Check.same("nothing has changed", x.judge.coin(0, 0, 0), 5000000000L);
        Check.same("nor the coins", x.judge.tell(5), 5);
    }

    private static void rewards() {
        Bench x = Bench.grown(3);
        Wire.Tx spend = new Wire.Tx().in(COIN_0, 0, EMPTY, Wire.MOST).out(4999999000L, EMPTY);
        Check.same("with a fee, one too much",
                x.addAll(3, Wire.firstTransaction(Wire.hex("0101"), 5000001001L), spend), -15);
        Wire.Tx split = Wire.firstTransaction(Wire.hex("0101"), 5000000000L).out(1001, EMPTY);
        Check.same("in two outputs", x.addAll(3, split, spend), -15);
        Check.same("just that", x.addAll(3, Wire.firstTransaction(Wire.hex("0101"), 5000001000L), spend), 0);
        for (int height : new int[] {11, 12, 23, 24, 36}) {
            Bench y = Bench.grown(height - 1);
            long reward = 5000000000L >> height / 12;
            Check.same("one too much at " + height,
                    y.addAll(height - 1, Wire.firstTransaction(Wire.hex("0101"), reward + 1)), -15);
            Check.same("the reward at " + height,
                    y.addAll(height - 1, Wire.firstTransaction(Wire.hex("0101"), reward)), 0);
        }
    }

    /** First transactions of 100 outputs each, as many as a tape has room for. */
    private static void tooManyCoins() {
        Bench x = new Bench();
        for (int b = 0; b < 3; b++) {
            Wire.Tx first = Wire.firstTransaction(Wire.number(b, 2), 1);
            for (int o = 1; o < 133; o++) {
                first.out(0, EMPTY);
            }
            Check.same("133 coins", x.addAll(b, first), 0);
        }
        Check.same("400 coins", x.judge.tell(5), 400);
        Wire.Tx one = Wire.firstTransaction(Wire.hex("0909"), 1);
        Check.same("401 coins", x.addAll(3, one), -16);
        Wire.Tx spend = new Wire.Tx().in(COIN_0, 0, EMPTY, 0).out(1, EMPTY);
        Check.same("behind each transaction", x.addAll(3, one, spend), -16);
        Wire.Tx greedy = Wire.firstTransaction(Wire.hex("0909"), 9000000000L);
        Check.same("16 before 15", x.addAll(3, greedy), -16);
        Wire.Tx again = Wire.firstTransaction(Wire.number(0, 2), 1);
        for (int o = 1; o < 133; o++) {
            again.out(0, EMPTY);
        }
        Check.same("the same ones again", x.addAll(3, again), 0);
        Check.same("take the places", x.judge.tell(5), 400);
    }

    private static void theLimit() {
        Bench x = Bench.grown(58);
        Check.same("on the 30th, stored", x.add(30), 1);
        Check.same("60 are kept", x.judge.tell(2), 60);
        byte[] fine = x.block(58, x.nextTime(58));
        Check.same("one more", x.judge(fine), -100);
        Check.same("the tape", x.judge.tell(0), 0);
        Check.same("not kept", x.judge.tell(2), 60);
        Check.same("no reason", x.judge.tell(1), 0);
        Check.same("again", x.judge(fine), -100);
        Check.same("known", x.judge(x.blocks.get(59)), 3);
        Check.same("refused before", x.addAll(58, new Wire.Tx().out(1, EMPTY)), -7);
        Wire.Tx lost = new Wire.Tx().in(COIN_0, 9, EMPTY, 0).out(1, EMPTY);
        Check.same("but not connected", x.add(58, lost), -100);
        Check.same("the reason stays", x.judge.tell(1), 7);
    }

    private static void tellRefusesOthers() {
        Bench x = Bench.grown(2);
        Check.outOfRange("-1", () -> x.judge.tell(-1));
        Check.outOfRange("7", () -> x.judge.tell(7));
        Check.same("blocks", x.judge.tell(2), 3);
        Check.same("the best", x.judge.tell(3), 2);
        Check.same("its height", x.judge.tell(4), 2);
        Check.same("coins", x.judge.tell(5), 3);
    }
}
