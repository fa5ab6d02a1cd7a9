import java.util.Arrays;

/** Promises 1, 14, 16 block, 17 coin, 18 coins: chains that compete, bits that are due, what is taken back. */
public final class ChainTest {
    private static final byte[] EMPTY = new byte[0];
    private static final byte[] COIN_0 = Wire.firstTransaction(Wire.hex("0000"), 5000000000L).id();

    private ChainTest() {
    }

    public static void main(String[] args) {
        aNewObject();
        objectsDoNotMix();
        blocksAreTold();
        blockRefusesOthers();
        coinsAreTold();
        coinRefusesOthers();
        moreWorkWins();
        coinsAreTakenBack();
        aRefusedChainChangesNothing();
        badOnesSpread();
        aBadOneInTheMiddle();
        theBestGoesOnBehindARefusal();
        aWayBackAndForth();
        sameFirstTransactions();
        sameOtherTransactions();
        Check.end();
    }

    private static void aNewObject() {
        Bench x = new Bench();
        long[] told = {0, 0, 1, 0, 0, 1, 0};
        for (int what = 0; what < told.length; what++) {
            Check.same("tell " + what, x.judge.tell(what), told[what]);
        }
        Check.same("coins", x.judge.coins(), 5000000000L);
        long[] block = {0, -1, 1, 1000000, 0x207FFFFF, 1, x.blocks.get(0).length, 2, 1000000};
        for (int what = 0; what < block.length; what++) {
            Check.same("block 0 " + what, x.judge.block(0, what), block[what]);
        }
        x.judge.seal(0);
        Check.same("its hash", Arrays.copyOfRange(x.tape(), 4, 36), Wire.hashOf(Wire.firstBlock()));
        Bench y = Bench.grown(2);
        Wire.Tx spend = new Wire.Tx().in(COIN_0, 0, EMPTY, Wire.MOST).out(5000000000L, EMPTY);
        Check.same("its coin unlocks as others do", y.add(2, spend), 0);
    }

    private static void objectsDoNotMix() {
        Bench x = Bench.grown(2);
        Bench y = new Bench();
        x.judge.tx(1, 0);
        x.tape("0102");
        Check.same("a new one is new", y.state(), new Bench().state());
        Check.same("the old one stays", x.judge.tell(2), 3);
        Check.same("and its tape", x.judge.word(0), 0x0102000000000000L);
    }

    private static void blocksAreTold() {
        Bench x = Bench.grown(2);
        Wire.Tx spend = new Wire.Tx().in(COIN_0, 0, EMPTY, Wire.MOST).out(1, EMPTY);
        byte[] block = x.block(2, 4000000000L, spend);
        Check.same("judged", x.judge(block), 0);
        Check.same("stored", x.add(1), 1);
        long[] third = {3, 2, 1, 4000000000L, 0x207FFFFF, 2, block.length, 8, 1001200};
        long[] fourth = {2, 1, 0, 1001200, 0x207FFFFF, 1, x.blocks.get(4).length, 6, 1000600};
        for (int what = 0; what < third.length; what++) {
            Check.same("block 3 " + what, x.judge.block(3, what), third[what]);
            Check.same("block 4 " + what, x.judge.block(4, what), fourth[what]);
        }
    }

    private static void blockRefusesOthers() {
        Bench x = Bench.grown(1);
        Check.outOfRange("b -1", () -> x.judge.block(-1, 0));
        Check.outOfRange("b 2", () -> x.judge.block(2, 0));
        Check.outOfRange("what -1", () -> x.judge.block(0, -1));
        Check.outOfRange("what 9", () -> x.judge.block(1, 9));
    }

    private static void coinsAreTold() {
        Bench x = Bench.grown(3);
        Wire.Tx spend = new Wire.Tx().in(COIN_0, 0, EMPTY, Wire.MOST).out(30, EMPTY).out(40, EMPTY);
        Check.same("judged", x.add(3, spend), 0);
        Check.same("spent", x.judge.coin(0, 0, 0), -1);
        Check.same("first", x.judge.coin(4, 0, 0), 5000000000L);
        Check.same("30", x.judge.coin(4, 1, 0), 30);
        Check.same("40", x.judge.coin(4, 1, 1), 40);
        Check.same("no such index", x.judge.coin(4, 1, 2), -1);
        Check.same("no such index either", x.judge.coin(4, 1, 256), -1);
        Check.same("index 2^32 - 1", x.judge.coin(4, 1, -1), -1);
        Check.same("index 2^31", x.judge.coin(4, 1, Integer.MIN_VALUE), -1);
        Check.same("all", x.judge.coins(), 20000000070L);
        Check.same("how many", x.judge.tell(5), 6);
    }

    private static void coinRefusesOthers() {
        Bench x = Bench.grown(1);
        Check.outOfRange("b -1", () -> x.judge.coin(-1, 0, 0));
        Check.outOfRange("b -2", () -> x.judge.coin(-2, 0, 0));
        Check.outOfRange("b 2", () -> x.judge.coin(2, 0, 0));
        Check.outOfRange("t -1", () -> x.judge.coin(0, -1, 0));
        Check.outOfRange("t 1", () -> x.judge.coin(1, 1, 0));
    }

    private static void standings(Bench x, String want) {
        StringBuilder got = new StringBuilder();
        for (int b = 0; b < x.judge.tell(2); b++) {
            got.append(x.judge.block(b, 2));
        }
        Check.same("standings " + got + ", due is " + want, got.toString().equals(want) ? 1 : 0, 1);
    }

    private static void moreWorkWins() {
        Bench x = Bench.grown(2);
        Check.same("less", x.add(0), 1);
        standings(x, "1110");
        Check.same("as much", x.add(3), 1);
        standings(x, "11100");
        Check.same("the best", x.judge.tell(3), 2);
        Check.same("more", x.add(4), 2);
        standings(x, "100111");
        Check.same("the best", x.judge.tell(3), 5);
        Check.same("its height", x.judge.tell(4), 3);
        Check.same("on the other", x.add(2), 1);
        Check.same("more there", x.add(6), 2);
        standings(x, "11100011");
        Check.same("on the best", x.add(7), 0);
        Check.same("coins", x.judge.tell(5), 6);
    }

    private static void coinsAreTakenBack() {
        Bench x = Bench.grown(3);
        Wire.Tx a = new Wire.Tx().in(COIN_0, 0, EMPTY, Wire.MOST).out(10, Bench.TRUE).out(20, Bench.TRUE);
        Wire.Tx b = new Wire.Tx().in(a, 0, EMPTY).out(5, Bench.TRUE);
        Check.same("a chain that spends", x.add(3, a, b), 0);
        Check.same("coins", x.judge.coins(), 20000000025L);
        Wire.Tx c = new Wire.Tx().in(COIN_0, 0, EMPTY, Wire.MOST).out(7, Bench.TRUE);
        Check.same("another one", x.add(3), 1);
        Check.same("that spends too", x.add(5, c), 2);
        Check.same("the first is gone", x.judge.coin(4, 1, 1), -1);
        Check.same("and its first transaction's", x.judge.coin(4, 0, 0), -1);
        Check.same("the other is there", x.judge.coin(6, 1, 0), 7);
        Check.same("coins", x.judge.coins(), 25000000007L);
        Check.same("how many", x.judge.tell(5), 6);
        Wire.Tx d = new Wire.Tx().in(b, 0, EMPTY).in(a, 1, EMPTY).out(25, EMPTY);
        Check.same("the first goes on", x.add(4, d), 1);
        Check.same("and wins again", x.add(7), 2);
        Check.same("the other is gone", x.judge.coin(6, 1, 0), -1);
        Check.same("its last coin", x.judge.coin(7, 1, 0), 25);
        Check.same("coins", x.judge.coins(), 30000000025L);
    }

    private static void aRefusedChainChangesNothing() {
        Bench x = Bench.grown(3);
        Wire.Tx a = new Wire.Tx().in(COIN_0, 0, EMPTY, Wire.MOST).out(10, Bench.TRUE);
        Check.same("fine", x.add(3, a), 0);
        Wire.Tx b = new Wire.Tx().in(COIN_0, 0, EMPTY, Wire.MOST).out(11, Bench.TRUE);
        Wire.Tx c = new Wire.Tx().in(a, 0, EMPTY).out(9, Bench.TRUE);
        Check.same("another", x.add(3, b), 1);
        Check.same("a coin of the other chain", x.add(5, c), -11);
        standings(x, "1111102");
        Check.same("the best", x.judge.tell(3), 4);
        Check.same("its coin", x.judge.coin(4, 1, 0), 10);
        Check.same("not the other's", x.judge.coin(5, 1, 0), -1);
        Check.same("coins", x.judge.coins(), 20000000010L);
        Check.same("the good part may win", x.add(5), 2);
        Check.same("its coin", x.judge.coin(5, 1, 0), 11);
        standings(x, "11110121");
    }

    private static void badOnesSpread() {
        Bench x = Bench.grown(5);
        Wire.Tx lost = new Wire.Tx().in(COIN_0, 7, EMPTY, 0).out(1, EMPTY);
        Check.same("stored though it is wrong", x.add(2, lost), 1);
        Check.same("on it", x.add(6), 1);
        Check.same("on that", x.add(7), 1);
        Check.same("a branch of it", x.add(6), 1);
        standings(x, "1111110000");
        Check.same("it would win", x.add(8), -11);
        standings(x, "11111122222");
        Check.same("all are kept", x.judge.tell(2), 11);
        Check.same("no block on a branch of it", x.add(9), -3);
        Check.same("the best goes on", x.add(5), 0);
    }

    private static void aBadOneInTheMiddle() {
        Bench x = Bench.grown(4);
        Check.same("fine", x.add(2), 1);
        Wire.Tx dear = new Wire.Tx().in(COIN_0, 0, EMPTY, 0).out(5000000001L, EMPTY);
        Check.same("wrong", x.add(5, dear), 1);
        Wire.Tx lost = new Wire.Tx().in(COIN_0, 7, EMPTY, 0).out(1, EMPTY);
        Check.same("wrong too: the first one's reason", x.add(6, lost), -13);
        standings(x, "11111022");
        Check.same("the fine one is no bad one", x.add(5), 1);
        Check.same("and may go on", x.add(8), 2);
        standings(x, "111001" + "2211");
    }

    /** The bad one lies one below the block that was judged; what comes next has nothing to do with both. */
    private static void theBestGoesOnBehindARefusal() {
        Bench x = Bench.grown(3);
        Wire.Tx lost = new Wire.Tx().in(COIN_0, 7, EMPTY, 0).out(1, EMPTY);
        Check.same("stored though it is wrong", x.add(2, lost), 1);
        Check.same("it would win", x.add(4), -11);
        Check.same("the best goes on", x.add(3), 0);
        Check.same("another chain", x.add(3), 1);
        Check.same("wins", x.add(7), 2);
        standings(x, "111122011");
    }

    private static void aWayBackAndForth() {
        Bench x = Bench.grown(3);
        int left = 3;
        int right = 3;
        for (int i = 0; i < 6; i++) {
            Check.same("left wins", x.add(left), i == 0 ? 0 : 2);
            left = x.judge.tell(2) - 1;
            Check.same("left again", x.add(left), 0);
            left = x.judge.tell(2) - 1;
            Check.same("right", x.add(right), 1);
            right = x.judge.tell(2) - 1;
            Check.same("right again", x.add(right), 1);
            right = x.judge.tell(2) - 1;
            Check.same("right wins", x.add(right), 2);
            right = x.judge.tell(2) - 1;
            Check.same("coins", x.judge.tell(5), x.judge.tell(4) + 1);
            Check.same("left is as long", x.add(left), 1);
            left = x.judge.tell(2) - 1;
        }
    }

    /** A coin may be taken by one with the same ID and index, and comes back with its own height. */
    private static void sameFirstTransactions() {
        Wire.Tx same = Wire.firstTransaction(Wire.hex("0505"), 100);
        Bench x = Bench.grown(1);
        Check.same("at height 2", x.addAll(1, same), 0);
        Check.same("plain", x.add(2), 0);
        Check.same("at height 4", x.addAll(3, same), 0);
        Check.same("one coin", x.judge.tell(5), 4);
        Check.same("by both", x.judge.coin(2, 0, 0), 100);
        Check.same("by both", x.judge.coin(4, 0, 0), 100);
        Check.same("plain", x.add(4), 0);
        Wire.Tx spend = new Wire.Tx().in(same, 0, EMPTY).out(100, EMPTY);
        Check.same("young again at height 6", x.add(5, spend), -12);
        Check.same("another chain from height 3", x.add(3), 1);
        Check.same("as long", x.add(7), 1);
        Check.same("there it is of height 2", x.add(8, spend), 2);
        Check.same("spent by both", x.judge.coin(4, 0, 0), -1);
        Check.same("plain", x.add(5), 1);
        Check.same("the first wins again", x.add(10), 2);
        Check.same("and has its coin", x.judge.coin(2, 0, 0), 100);
        Check.same("ripe there at height 8", x.add(11, spend), 0);
    }

    /** A first transaction that comes again can be spent again by the same one, whose coin then takes its place. */
    private static void sameOtherTransactions() {
        Wire.Tx same = Wire.firstTransaction(Wire.hex("0505"), 100);
        Wire.Tx spend = new Wire.Tx().in(same, 0, EMPTY).out(60, Bench.TRUE).out(40, EMPTY);
        Bench x = Bench.grown(1);
        Check.same("at height 2", x.addAll(1, same), 0);
        Check.same("plain", x.add(2), 0);
        Check.same("plain", x.add(3), 0);
        Check.same("spent at height 5", x.add(4, spend), 0);
        Check.same("coins", x.judge.tell(5), 7);
        Check.same("again at height 6", x.addAll(5, same), 0);
        Check.same("plain", x.add(6), 0);
        Check.same("plain", x.add(7), 0);
        Check.same("coins", x.judge.tell(5), 10);
        Check.same("spent again at height 9", x.add(8, spend), 0);
        Check.same("its coins take the places", x.judge.tell(5), 10);
        Check.same("by both", x.judge.coin(5, 1, 0), 60);
        Check.same("by both", x.judge.coin(9, 1, 1), 40);
        Wire.Tx last = new Wire.Tx().in(spend, 0, EMPTY).out(60, EMPTY);
        Check.same("spent", x.add(9, last), 0);
        Check.same("by both", x.judge.coin(5, 1, 0), -1);
        Check.same("the other is left", x.judge.coin(5, 1, 1), 40);
    }
}
