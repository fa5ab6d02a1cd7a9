import java.util.Arrays;

/** Promises 1 (the first draft), 7 open, 8 tx, 9 input, 10 output, 11 push, 13 seal, and 15 for the draft. */
public final class DraftTest {
    private static final byte[] EMPTY = new byte[0];

    private DraftTest() {
    }

    public static void main(String[] args) {
        theFirstDraftIsEmpty();
        openTakesAnyKeptBlock();
        openTakesBadOnesToo();
        openRefusesOthers();
        txCountsToTwelve();
        inputsOfAllKinds();
        inputsOfAllBlocks();
        inputRefusesInOrder();
        outputsOfAllKinds();
        scriptsHaveAtMost600Bytes();
        scriptsOfAllLengths();
        pushesOfAllLengths();
        pushesToTheLatest();
        pushRefusesInOrder();
        sealSpoils();
        rootsThatAreSpoilt();
        theDraftStays();
        sealRefusesLongOnes();
        sealEndsAtNonce4095();
        Check.end();
    }

    private static void same(String what, Bench x, byte[] want) {
        Check.same(what + ": length", x.judge.seal(0), want.length);
        Check.same(what, x.tape(), want);
    }

    private static void theFirstDraftIsEmpty() {
        Bench x = new Bench();
        Check.same("transactions", x.judge.tell(6), 0);
        byte[] want = Wire.mined(1, x.hash(0), Wire.NO_HASH, 1000600, Wire.EASIEST, Wire.EASIEST, true, Wire.hex("00"));
        same("the first draft", x, want);
    }

    private static void openTakesAnyKeptBlock() {
        Bench x = Bench.grown(2);
        x.add(0);
        Check.same("stored", x.judge.block(3, 2), 0);
        int[] parents = {0, 1, 2, 3};
        for (int parent : parents) {
            x.judge.open(parent, Wire.MOST);
            same("on " + parent, x, Wire.block(x.hash(parent), Wire.MOST, Wire.EASIEST));
        }
        x.judge.open(-1, 0);
        same("on the best one", x, Wire.block(x.hash(2), 0, Wire.EASIEST));
        x.add(2);
        x.judge.open(-1, 9);
        x.add(4);
        same("the best one as it was", x, Wire.block(x.hash(4), 9, Wire.EASIEST));
        x.judge.tx(1, 0);
        x.judge.open(1, 7);
        Check.same("without transactions", x.judge.tell(6), 0);
    }

    private static void openTakesBadOnesToo() {
        Bench x = Bench.grown(1);
        Check.same("bad", x.addAll(1, Wire.firstTransaction(Wire.hex("0101"), 5000000001L)), -15);
        x.judge.open(2, 1001800);
        same("on a bad one", x, Wire.block(x.hash(2), 1001800, Wire.EASIEST));
        x.judge.open(-1, 1001800);
        same("the best one is no bad one", x, Wire.block(x.hash(1), 1001800, Wire.EASIEST));
    }

    private static void openRefusesOthers() {
        Bench x = Bench.grown(1);
        x.judge.open(1, 77);
        x.judge.tx(1, 0);
        Check.outOfRange("-2", () -> x.judge.open(-2, 1));
        Check.outOfRange("2", () -> x.judge.open(2, 1));
        Check.outOfRange("time -1", () -> x.judge.open(0, -1));
        Check.outOfRange("time 2^32", () -> x.judge.open(0, 1L << 32));
        Check.same("not changed", x.judge.tell(6), 1);
    }

    private static void txCountsToTwelve() {
        Bench x = new Bench();
        Check.outOfRange("version -1", () -> x.judge.tx(-1, 0));
        Check.outOfRange("version 2^32", () -> x.judge.tx(1L << 32, 0));
        Check.outOfRange("lock -1", () -> x.judge.tx(1, -1));
        Check.outOfRange("lock 2^32", () -> x.judge.tx(1, 1L << 32));
        Wire.Tx[] all = new Wire.Tx[12];
        for (int i = 0; i < 12; i++) {
            all[i] = new Wire.Tx();
            all[i].version = i == 5 ? 0 : Wire.MOST - i;
            all[i].lock = i == 0 ? Wire.MOST : i;
            Check.same("tx", x.judge.tx(all[i].version, all[i].lock), i + 1);
            Check.same("told", x.judge.tell(6), i + 1);
        }
        Check.noRoom("the 13th", () -> x.judge.tx(1, 0));
        Check.outOfRange("out of range comes first", () -> x.judge.tx(-1, 0));
        same("twelve", x, Wire.block(x.hash(0), 1000600, Wire.EASIEST, all));
    }

    private static void inputsOfAllKinds() {
        Bench x = Bench.grown(1);
        x.judge.open(0, 1000600);
        x.judge.tx(1, 0);
        Wire.Tx a = new Wire.Tx();
        x.tape("0102");
        Check.same("NONE", x.judge.input(-1, 99, -99, 0), 1);
        a.in(Wire.NO_HASH, Wire.MOST, Wire.hex("0102"), 0);
        Check.same("the tape is empty then", x.judge.tell(0), 0);
        Check.same("of a block", x.judge.input(0, 0, 3, Wire.MOST), 2);
        a.in(Wire.firstTransaction(Wire.hex("0000"), 5000000000L).id(), 3, EMPTY, Wire.MOST);
        byte[] self = a.id();
        Check.same("of itself as it is now", x.judge.input(-2, 0, -1, 5), 3);
        a.in(self, Wire.MOST, EMPTY, 5);
        x.judge.tx(2, 0);
        Wire.Tx b = new Wire.Tx();
        b.version = 2;
        x.tape("51");
        Check.same("of the draft", x.judge.input(-2, 0, Integer.MIN_VALUE, 1), 1);
        b.in(a.id(), 1L << 31, Wire.hex("51"), 1);
        byte[] id = Arrays.copyOfRange(x.blocks.get(1), 81, x.blocks.get(1).length);
        Check.same("of block 1", x.judge.input(1, 0, 0, 1), 2);
        b.in(Wire.twice(id), 0, EMPTY, 1);
        same("inputs", x, Wire.block(x.hash(0), 1000600, Wire.EASIEST, a, b));
    }

    /** Transactions of blocks on the best chain, stored and bad, and not just their first ones. */
    private static void inputsOfAllBlocks() {
        Bench x = Bench.grown(3);
        Wire.Tx a = new Wire.Tx().in(Bench.COIN_0, 0, EMPTY, 0).out(5, Bench.TRUE);
        Wire.Tx b = new Wire.Tx().in(a, 0, EMPTY).out(4, Bench.TRUE);
        Check.same("two more", x.add(3, a, b), 0);
        Wire.Tx c = new Wire.Tx().in(Bench.COIN_0, 0, EMPTY, 0).out(6, Bench.TRUE);
        Check.same("stored", x.add(3, c), 1);
        Wire.Tx d = new Wire.Tx().in(Bench.COIN_0, 7, EMPTY, 0).out(7, Bench.TRUE);
        Check.same("bad", x.add(4, d), -11);
        x.judge.open(4, 1003000);
        x.judge.tx(1, 0);
        x.judge.input(4, 1, 1, 1);
        x.judge.input(4, 2, 2, 2);
        x.judge.input(5, 1, 3, 3);
        x.judge.input(6, 1, 4, 4);
        Check.outOfRange("no third one", () -> x.judge.input(4, 3, 0, 0));
        Check.outOfRange("no second one", () -> x.judge.input(5, 2, 0, 0));
        Wire.Tx want = new Wire.Tx().in(a.id(), 1, EMPTY, 1).in(b.id(), 2, EMPTY, 2).in(c.id(), 3, EMPTY, 3)
                .in(d.id(), 4, EMPTY, 4);
        same("of four", x, Wire.block(x.hash(4), 1003000, Wire.EASIEST, want));
    }

    private static void inputRefusesInOrder() {
        Bench x = Bench.grown(1);
        x.judge.open(0, 1);
        Check.tooEarly("no transaction", () -> x.judge.input(0, 0, 0, 0));
        Check.tooEarly("no transaction for NONE", () -> x.judge.input(-1, 0, 0, 0));
        Check.outOfRange("no transaction of the draft", () -> x.judge.input(-2, 0, 0, 0));
        Check.outOfRange("sequence first", () -> x.judge.input(0, 0, 0, -1));
        x.judge.tx(1, 0);
        Check.outOfRange("b -3", () -> x.judge.input(-3, 0, 0, 0));
        Check.outOfRange("b 2", () -> x.judge.input(2, 0, 0, 0));
        Check.outOfRange("t -1", () -> x.judge.input(1, -1, 0, 0));
        Check.outOfRange("t 1", () -> x.judge.input(1, 1, 0, 0));
        Check.outOfRange("t 1 of the draft", () -> x.judge.input(-2, 1, 0, 0));
        Check.outOfRange("t -1 of the draft", () -> x.judge.input(-2, -1, 0, 0));
        Check.outOfRange("sequence 2^32", () -> x.judge.input(-1, 0, 0, 1L << 32));
        for (int i = 1; i <= 6; i++) {
            Check.same("input", x.judge.input(-1, 0, 0, 0), i);
        }
        x.tape("07");
        Check.noRoom("the seventh", () -> x.judge.input(-1, 0, 0, 0));
        Check.same("the tape stays", x.tape(), Wire.hex("07"));
        Check.outOfRange("out of range comes first", () -> x.judge.input(2, 0, 0, 0));
    }

    private static void outputsOfAllKinds() {
        Bench x = new Bench();
        Check.tooEarly("no transaction", () -> x.judge.output(1));
        x.judge.tx(1, 0);
        Wire.Tx a = new Wire.Tx();
        long[] values = {0, 1, -1, Long.MIN_VALUE, Long.MAX_VALUE, 5000000000L};
        for (int i = 0; i < 6; i++) {
            x.tape(Wire.times(i, "a" + i));
            Check.same("output", x.judge.output(values[i]), i + 1);
            Check.same("the tape is empty then", x.judge.tell(0), 0);
            a.out(values[i], Wire.times(i, "a" + i));
        }
        x.tape("07");
        Check.noRoom("the seventh", () -> x.judge.output(1));
        Check.same("the tape stays", x.judge.tell(0), 1);
        same("outputs", x, Wire.block(x.hash(0), 1000600, Wire.EASIEST, a));
    }

    private static void scriptsHaveAtMost600Bytes() {
        Bench x = new Bench();
        x.judge.tx(1, 0);
        x.tape(new byte[601]);
        Check.noRoom("an input's", () -> x.judge.input(-1, 0, 0, 0));
        Check.noRoom("an output's", () -> x.judge.output(0));
        Check.same("the tape stays", x.judge.end(600), 600);
        Check.same("input", x.judge.input(-1, 0, 0, 0), 1);
        x.tape(Wire.times(253, "51"));
        Check.same("output", x.judge.output(0), 1);
        Wire.Tx a = new Wire.Tx().in(Wire.NO_HASH, Wire.MOST, new byte[600], 0).out(0, Wire.times(253, "51"));
        same("long scripts", x, Wire.block(x.hash(0), 1000600, Wire.EASIEST, a));
    }

    private static void scriptsOfAllLengths() {
        for (int n : new int[] {1, 127, 128, 252, 253, 255, 256, 599, 600}) {
            Bench x = new Bench();
            byte[] script = Wire.times(n, "ab");
            x.judge.tx(1, 0);
            x.tape(script);
            x.judge.input(-1, 0, 0, 1);
            x.tape(script);
            x.judge.output(2);
            Wire.Tx a = new Wire.Tx().in(Wire.NO_HASH, Wire.MOST, script, 1).out(2, script);
            same("scripts of " + n, x, Wire.block(x.hash(0), 1000600, Wire.EASIEST, a));
        }
    }

    private static void pushesOfAllLengths() {
        int[] lengths = {0, 1, 75, 76, 77, 255, 256, 257, 597};
        for (int n : lengths) {
            Bench x = new Bench();
            x.judge.tx(1, 0);
            x.judge.input(-1, 0, 0, 9);
            x.judge.input(-1, 0, 0, 8);
            x.tape(Wire.times(n, "ab"));
            byte[] want = Wire.push(Wire.times(n, "ab"));
            Check.same("push of " + n, x.judge.push(1), want.length);
            Check.same("the tape is empty then", x.judge.tell(0), 0);
            Wire.Tx a = new Wire.Tx().in(Wire.NO_HASH, Wire.MOST, EMPTY, 9).in(Wire.NO_HASH, Wire.MOST, want, 8);
            same("a push of " + n, x, Wire.block(x.hash(0), 1000600, Wire.EASIEST, a));
        }
    }

    private static void pushesToTheLatest() {
        Bench x = new Bench();
        Wire.Tx[] all = {new Wire.Tx(), new Wire.Tx()};
        for (int t = 0; t < 2; t++) {
            x.judge.tx(1, 0);
            for (int i = 0; i < 6; i++) {
                x.tape("0" + i);
                x.judge.input(-1, 0, 0, i);
                byte[] script = Wire.hex(t == 1 && i == 5 ? "05 02 ee0f 00" : t == 1 && i == 0 ? "00 01 77" : "0" + i);
                all[t].in(Wire.NO_HASH, Wire.MOST, script, i);
            }
        }
        x.tape("ee0f");
        Check.same("to the sixth", x.judge.push(5), 4);
        Check.same("a push of nothing", x.judge.push(5), 5);
        x.tape("77");
        Check.same("to the first", x.judge.push(0), 3);
        same("pushed", x, Wire.block(x.hash(0), 1000600, Wire.EASIEST, all));
    }

    private static void pushRefusesInOrder() {
        Bench x = new Bench();
        Check.tooEarly("no transaction", () -> x.judge.push(0));
        Check.tooEarly("before i, too", () -> x.judge.push(-1));
        x.judge.tx(1, 0);
        Check.outOfRange("no input", () -> x.judge.push(0));
        x.judge.input(-1, 0, 0, 0);
        Check.outOfRange("-1", () -> x.judge.push(-1));
        Check.outOfRange("1", () -> x.judge.push(1));
        x.tape(new byte[598]);
        Check.noRoom("598 bytes", () -> x.judge.push(0));
        Check.same("the tape stays", x.judge.tell(0), 598);
        x.judge.end(523);
        Check.same("523 bytes", x.judge.push(0), 526);
        x.tape(new byte[74]);
        Check.noRoom("601 bytes", () -> x.judge.push(0));
        x.judge.end(73);
        Check.same("600 bytes", x.judge.push(0), 600);
        Check.noRoom("601 bytes with nothing", () -> x.judge.push(0));
        x.judge.tx(1, 0);
        Check.outOfRange("the latest one has no input", () -> x.judge.push(0));
    }

    private static void sealSpoils() {
        Bench x = Bench.grown(2);
        x.judge.open(1, 1234567);
        Wire.Tx a = Wire.firstTransaction(Wire.hex("0909"), 77);
        Wire.Tx b = new Wire.Tx().in(a, 0, Wire.hex("52")).out(5, Bench.TRUE);
        Wire.Tx c = new Wire.Tx().out(6, EMPTY);
        x.judge.tx(1, 0);
        x.tape("0909");
        x.judge.input(-1, 0, 0, Wire.MOST);
        x.tape("51");
        x.judge.output(77);
        x.judge.tx(1, 0);
        x.tape("52");
        x.judge.input(-2, 0, 0, Wire.MOST);
        x.tape("51");
        x.judge.output(5);
        x.judge.tx(1, 0);
        x.judge.output(6);
        byte[] root = Wire.root(a.id(), b.id(), c.id());
        byte[] wrong = root.clone();
        wrong[0]++;
        byte[] body = Wire.join(Wire.count(3), a.bytes(), b.bytes(), c.bytes());
        for (int spoil = 0; spoil <= 5; spoil++) {
            byte[] want = Wire.mined(spoil == 4 ? 2 : 1, spoil == 5 ? Wire.NO_HASH : x.hash(1),
                    spoil == 1 ? wrong : root, 1234567, spoil == 2 ? Wire.EASIEST - 1 : Wire.EASIEST, Wire.EASIEST,
                    spoil != 3, body);
            x.tape("aaaa");
            Check.same("length", x.judge.seal(spoil), want.length);
            Check.same("spoil " + spoil, x.tape(), want);
            Check.same("the draft stays", x.judge.tell(6), 3);
        }
        Check.outOfRange("spoil -1", () -> x.judge.seal(-1));
        Check.outOfRange("spoil 6", () -> x.judge.seal(6));
        Check.same("the tape stays", x.judge.tell(0), 80 + body.length);
    }

    private static void rootsThatAreSpoilt() {
        Bench x = new Bench();
        byte[] one = Wire.join(Wire.hex("01"), new byte[31]);
        x.judge.seal(1);
        Check.same("of none", x.tape(),
                Wire.mined(1, x.hash(0), one, 1000600, Wire.EASIEST, Wire.EASIEST, true, Wire.hex("00")));
        Wire.Tx a = new Wire.Tx();
        while (a.id()[0] != -1) {
            a.version++;
        }
        byte[] wrong = a.id();
        wrong[0] = 0;
        x.judge.tx(a.version, 0);
        x.judge.seal(1);
        byte[] body = Wire.join(Wire.hex("01"), a.bytes());
        Check.same("one more than 255 is 0, and no other byte changes", x.tape(),
                Wire.mined(1, x.hash(0), wrong, 1000600, Wire.EASIEST, Wire.EASIEST, true, body));
    }

    private static void theDraftStays() {
        Bench x = new Bench();
        x.draft(600);
        x.judge.seal(0);
        byte[] drawn = x.tape();
        Check.same("judged", x.judge.judge(), 0);
        Check.same("its transactions", x.judge.tell(6), 1);
        same("its parent too", x, drawn);
        Check.same("known", x.judge.judge(), 3);
        x.judge.output(7);
        Check.same("it goes on", x.judge.seal(0), drawn.length + 9);
    }

    private static void sealRefusesLongOnes() {
        Bench x = new Bench();
        x.judge.tx(1, 0);
        int rest = 1600 - 81 - 10;
        x.tape(new byte[600]);
        x.judge.input(-1, 0, 0, 0);
        rest -= 600 + 43;
        x.tape(new byte[600]);
        x.judge.output(0);
        rest -= 600 + 11;
        x.tape(new byte[rest - 9 + 1]);
        x.judge.output(0);
        x.tape("aabb");
        Check.noRoom("1601 bytes", () -> x.judge.seal(0));
        Check.same("the tape stays", x.tape(), Wire.hex("aabb"));
        Check.outOfRange("out of range comes first", () -> x.judge.seal(6));
        x.judge.open(0, 1000600);
        x.judge.tx(1, 0);
        x.tape(new byte[600]);
        x.judge.input(-1, 0, 0, 0);
        x.tape(new byte[600]);
        x.judge.output(0);
        x.tape(new byte[rest - 9]);
        x.judge.output(0);
        Check.same("1600 bytes", x.judge.seal(0), 1600);
    }

    /** Each eighth block makes the target four times harder here, until none of 4096 nonces reaches it. */
    private static void sealEndsAtNonce4095() {
        Bench x = new Bench();
        while (x.last() < 58 && reached(x, x.plain(1))) {
            x.grow(1);
        }
        byte[] want = x.plain(1);
        Check.same("the last nonce", Wire.low(Arrays.copyOfRange(want, 76, 80)).longValue(), 4095);
        x.draft(1);
        same("none reaches it", x, want);
        Check.same("judged", x.judge(want), -2);
        x.draft(1);
        x.judge.seal(3);
        Check.same("the first one is above it", x.judge.word(76) >>> 32, 0);
    }

    private static boolean reached(Bench x, byte[] block) {
        return Wire.low(Wire.hashOf(block)).compareTo(Wire.target(x.due(x.last()))) <= 0;
    }
}
