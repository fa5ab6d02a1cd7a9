/** CONNECTED: the reasons 11 .. 16 of promise 14, in their order, and the coins behind (17 coin, 18 coins). */
public final class SpendTest {
    private static final byte[] EMPTY = Bench.EMPTY;
    private static final byte[] COIN_0 = Bench.COIN_0;
    private static final byte[] FAIL = Wire.hex("6a");

    private SpendTest() {
    }

    public static void main(String[] args) {
        coinsThatAreNotThere();
        coinsOfTheSameBlock();
        youngCoins();
        otherCoinsAreNeverYoung();
        lessThanTheOutputs();
        scriptsThatDoNotUnlock();
        inputByInput();
        valuesBeforeScripts();
        transactionByTransaction();
        rewards();
        feesOfAllOthers();
        halvedRewards();
        fourHundredCoins();
        countedBehindEach();
        coinsThatTakeAPlace();
        manyAtOnce();
        noValueAtAll();
        Check.end();
    }

    private static Wire.Tx take(byte[] id, long index, long value) {
        return new Wire.Tx().in(id, index, EMPTY, Wire.MOST).out(value, Bench.TRUE);
    }

    private static void coinsThatAreNotThere() {
        for (long index : new long[] {1, 256, 1L << 31, Wire.MOST}) {
            Bench x = Bench.grown(3);
            Check.same("index " + index, x.add(3, take(COIN_0, index, 1)), -11);
            Check.same("kept as a bad one", x.judge.block(4, 2), 2);
        }
        Bench x = Bench.grown(3);
        byte[] other = COIN_0.clone();
        other[31] ^= 1;
        Check.same("another ID", x.add(3, take(other, 0, 1)), -11);
        Check.same("spent", x.add(3, take(COIN_0, 0, 1)), 0);
        Check.same("spent before", x.add(x.last(), take(COIN_0, 0, 2)), -11);
        Check.same("twice in one block", Bench.grown(3).add(3, take(COIN_0, 0, 1), take(COIN_0, 0, 2)), -11);
        Bench y = Bench.grown(4);
        Wire.Tx two = new Wire.Tx().in(y.id(1), 0, Bench.TRUE, 0).in(COIN_0, 0, EMPTY, 0).out(1, EMPTY);
        Check.same("the second of two, and again", y.add(4, two, take(COIN_0, 0, 2)), -11);
    }

    private static void coinsOfTheSameBlock() {
        Bench x = Bench.grown(3);
        Wire.Tx made = take(COIN_0, 0, 3).out(4, Bench.TRUE);
        Wire.Tx later = take(made.id(), 1, 4);
        Check.same("from behind", x.add(3, later, made), -11);
        Check.same("from before", x.add(3, made, later), 0);
        Check.same("spent", x.judge.coin(0, 0, 0), -1);
        Check.same("left", x.judge.coin(x.last(), 1, 0), 3);
        Check.same("spent in the block", x.judge.coin(x.last(), 1, 1), -1);
        Check.same("made", x.judge.coin(x.last(), 2, 0), 4);
        Check.same("how many", x.judge.tell(5), 6);
    }

    private static void youngCoins() {
        for (int height = 1; height <= 4; height++) {
            Bench x = Bench.grown(height - 1);
            int want = height < 3 ? -12 : 0;
            Check.same("block 0's coin at height " + height, x.add(height - 1, take(COIN_0, 0, 1)), want);
        }
        Bench x = Bench.grown(5);
        Wire.Tx two = new Wire.Tx().in(x.id(4), 0, Bench.TRUE, 0).out(1, EMPTY);
        Check.same("two higher", x.add(5, two), -12);
        Wire.Tx three = new Wire.Tx().in(x.id(3), 0, Bench.TRUE, 0).out(1, EMPTY);
        Check.same("three higher", x.add(5, three), 0);
        Bench y = Bench.grown(3);
        Wire.Tx first = y.first(3);
        Check.same("its own first one", y.addAll(3, first, take(first.id(), 0, 1)), -12);
    }

    private static void otherCoinsAreNeverYoung() {
        Bench x = Bench.grown(3);
        Wire.Tx made = take(COIN_0, 0, 3);
        Check.same("made", x.add(3, made), 0);
        Check.same("spent a block later", x.add(4, take(made.id(), 0, 3)), 0);
    }

    private static void lessThanTheOutputs() {
        Bench x = Bench.grown(4);
        Check.same("one too much", x.add(4, take(COIN_0, 0, 5000000001L)), -13);
        Check.same("one too much in two", x.add(4, take(COIN_0, 0, 5000000000L).out(1, EMPTY)), -13);
        Wire.Tx both = new Wire.Tx().in(COIN_0, 0, EMPTY, 0).in(x.id(1), 0, Bench.TRUE, 0);
        Check.same("of two inputs", x.add(4, both.out(10000000001L, EMPTY)), -13);
        both.outs.set(0, new Wire.Out(10000000000L, EMPTY));
        Check.same("just both", x.add(4, both), 0);
        Bench y = Bench.grown(3);
        Check.same("just the outputs", y.add(3, take(COIN_0, 0, 5000000000L).out(0, EMPTY)), 0);
        Check.same("an output of 0 is a coin", y.judge.coin(4, 1, 1), 0);
    }

    private static void scriptsThatDoNotUnlock() {
        Bench x = Bench.grown(3);
        Wire.Tx made = take(COIN_0, 0, 1).out(2, FAIL).out(3, EMPTY);
        Check.same("made", x.add(3, made), 0);
        Wire.Tx second = new Wire.Tx().in(made, 0, EMPTY).in(made, 1, EMPTY).out(1, EMPTY);
        Check.same("the second input", x.add(4, second), -14);
        Wire.Tx first = new Wire.Tx().in(made, 1, EMPTY).in(made, 0, EMPTY).out(1, EMPTY);
        Check.same("the first input", x.add(4, first), -14);
        Check.same("nothing on top", x.add(4, new Wire.Tx().in(made, 2, EMPTY).out(1, EMPTY)), -14);
        Wire.Tx fine = new Wire.Tx().in(made, 0, EMPTY).in(made, 2, Bench.TRUE).out(4, EMPTY);
        Check.same("others", x.add(4, fine), 0);
        Check.same("what cannot be unlocked stays", x.judge.coin(4, 1, 1), 2);
    }

    /** 11, 12 and the first part of 13 go input by input; then the sum, then the scripts. */
    private static void inputByInput() {
        Bench x = Bench.grown(4);
        byte[] young = x.id(4);
        Wire.Tx a = new Wire.Tx().in(young, 0, EMPTY, 0).in(COIN_0, 9, EMPTY, 0).out(1, EMPTY);
        Check.same("12 of the first input", x.add(4, a), -12);
        Wire.Tx b = new Wire.Tx().in(COIN_0, 9, EMPTY, 0).in(young, 0, EMPTY, 0).out(1, EMPTY);
        Check.same("11 of the first input", x.add(4, b), -11);
        Wire.Tx c = new Wire.Tx().in(COIN_0, 0, FAIL, 0).in(young, 0, EMPTY, 0).out(1, EMPTY);
        Check.same("12 of the second before 14 of the first", x.add(4, c), -12);
        Wire.Tx d = new Wire.Tx().in(COIN_0, 0, FAIL, 0).in(COIN_0, 9, EMPTY, 0).out(1, EMPTY);
        Check.same("11 of the second before 14 of the first", x.add(4, d), -11);
        Wire.Tx e = new Wire.Tx().in(young, 0, EMPTY, 0).out(9000000000L, EMPTY);
        Check.same("12 before the sum", x.add(4, e), -12);
        Check.same("nothing has changed", x.judge.coin(0, 0, 0), 5000000000L);
        Check.same("nor the coins", x.judge.tell(5), 5);
    }

    private static void valuesBeforeScripts() {
        Bench x = Bench.grown(3);
        Wire.Tx dear = new Wire.Tx().in(COIN_0, 0, FAIL, 0).out(5000000001L, EMPTY);
        Check.same("13 before 14", x.add(3, dear), -13);
        Wire.Tx fails = new Wire.Tx().in(COIN_0, 0, FAIL, 0).out(5000000000L, EMPTY);
        Check.same("14", x.add(3, fails), -14);
    }

    private static void transactionByTransaction() {
        Bench x = Bench.grown(4);
        Wire.Tx fails = new Wire.Tx().in(COIN_0, 0, FAIL, 0).out(1, EMPTY);
        Wire.Tx lost = take(COIN_0, 9, 1);
        Wire.Tx fine = take(COIN_0, 0, 1);
        Check.same("14 of one before 11 of the next", x.add(4, fails, lost), -14);
        Check.same("11 of one before 14 of the next", x.add(4, lost, fails), -11);
        Check.same("11 behind a fine one", x.add(4, fine, lost), -11);
        Wire.Tx greedy = Wire.firstTransaction(Wire.hex("0101"), 6000000000000L);
        Check.same("14 before 15", x.addAll(4, greedy, fails), -14);
        Check.same("11 before 15", x.addAll(4, greedy, lost), -11);
        Check.same("15 in the end", x.addAll(4, greedy, fine), -15);
        Check.same("nothing has changed", x.judge.coin(0, 0, 0), 5000000000L);
    }

    private static void rewards() {
        Bench x = Bench.grown(3);
        Check.same("one too much", x.addAll(3, Wire.firstTransaction(Wire.hex("0101"), 5000000001L)), -15);
        Wire.Tx split = Wire.firstTransaction(Wire.hex("0101"), 4000000000L).out(1000000001L, EMPTY);
        Check.same("one too much in two", x.addAll(3, split), -15);
        Check.same("just that", x.addAll(3, Wire.firstTransaction(Wire.hex("0101"), 5000000000L)), 0);
        Check.same("less", x.addAll(x.last(), Wire.firstTransaction(Wire.hex("0101"), 0)), 0);
    }

    private static void feesOfAllOthers() {
        Bench x = Bench.grown(3);
        Wire.Tx a = take(COIN_0, 0, 4999999000L);
        Wire.Tx b = take(a.id(), 0, 4999998999L);
        Wire.Tx c = take(b.id(), 0, 4999998000L);
        Wire.Tx greedy = Wire.firstTransaction(Wire.hex("0101"), 5000002001L);
        Check.same("one too much", x.addAll(3, greedy, a, b, c), -15);
        Check.same("just that", x.addAll(3, Wire.firstTransaction(Wire.hex("0101"), 5000002000L), a, b, c), 0);
        Check.same("coins", x.judge.coins(), 25000000000L);
    }

    private static void halvedRewards() {
        int[] heights = {11, 12, 23, 24, 35, 36, 47, 48};
        long[] rewards = {5000000000L, 2500000000L, 2500000000L, 1250000000L, 1250000000L, 625000000L, 625000000L,
            312500000L};
        for (int i = 0; i < heights.length; i++) {
            Bench x = Bench.grown(heights[i] - 1);
            int parent = x.last();
            Check.same("one too much at " + heights[i],
                    x.addAll(parent, Wire.firstTransaction(Wire.hex("0101"), rewards[i] + 1)), -15);
            Check.same("the reward at " + heights[i],
                    x.addAll(parent, Wire.firstTransaction(Wire.hex("0101"), rewards[i])), 0);
        }
    }

    private static Wire.Tx many(int number, int outputs) {
        Wire.Tx first = Wire.firstTransaction(Wire.number(number, 2), 1);
        for (int o = 1; o < outputs; o++) {
            first.out(0, EMPTY);
        }
        return first;
    }

    /** Three blocks of 133 coins each above number 0. */
    private static Bench full() {
        Bench x = new Bench();
        for (int b = 0; b < 3; b++) {
            Check.same("133 coins", x.addAll(b, many(b, 133)), 0);
        }
        return x;
    }

    private static void fourHundredCoins() {
        Bench x = full();
        Check.same("400 coins", x.judge.tell(5), 400);
        Check.same("401 coins", x.addAll(3, Wire.firstTransaction(Wire.hex("0909"), 1)), -16);
        Check.same("as before", x.judge.tell(5), 400);
        Check.same("the best one", x.judge.tell(3), 3);
    }

    private static void countedBehindEach() {
        Bench x = full();
        Wire.Tx one = Wire.firstTransaction(Wire.hex("0909"), 1);
        Check.same("though the next one takes one away", x.addAll(3, one, take(COIN_0, 0, 1)), -16);
        Check.same("before 11 of the next", x.addAll(3, one, take(COIN_0, 9, 1)), -16);
        Check.same("before 15", x.addAll(3, Wire.firstTransaction(Wire.hex("0909"), 9000000000L)), -16);
    }

    private static void coinsThatTakeAPlace() {
        Bench x = full();
        Check.same("the same ones again", x.addAll(3, many(0, 133)), 0);
        Check.same("take the places", x.judge.tell(5), 400);
        Check.same("one more than these", x.addAll(x.last(), many(1, 134)), -16);
        Bench y = Bench.grown(1);
        Check.same("number 0's again", y.addAll(1, Wire.firstTransaction(Wire.hex("0000"), 5000000000L)), 0);
        Check.same("takes its place", y.judge.tell(5), 2);
        Check.same("coins", y.judge.coins(), 10000000000L);
        Check.same("by number 0", y.judge.coin(0, 0, 0), 5000000000L);
        Check.same("a block more", y.add(2), 0);
        Check.same("it is young again at height 4", y.add(3, take(COIN_0, 0, 1)), -12);
        Check.same("a block more", y.add(3), 0);
        Check.same("and old at height 5", y.add(5, take(COIN_0, 0, 1)), 0);
        Check.same("gone by number 0, too", y.judge.coin(0, 0, 0), -1);
    }

    /** As many outputs as a tape has room for, on as many coins as there may be. */
    private static void manyAtOnce() {
        Bench x = full();
        Check.same("162 more", x.addAll(3, many(9, 162)), -16);
        Check.same("as before", x.judge.tell(5), 400);
    }

    private static void noValueAtAll() {
        Bench x = new Bench();
        for (int b = 0; b < 3; b++) {
            Check.same("for nothing", x.addAll(b, Wire.firstTransaction(Wire.number(b, 2), 0)), 0);
        }
        Check.same("coins", x.judge.coins(), 5000000000L);
        Check.same("all is left", x.addAll(3, Wire.firstTransaction(Wire.hex("0909"), 0), take(COIN_0, 0, 0)), 0);
        Check.same("coins of no value", x.judge.coins(), 0);
        Check.same("how many", x.judge.tell(5), 5);
    }
}
