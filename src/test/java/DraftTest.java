import java.util.Arrays;

/** Promises 1 (the first draft), 7 open, 8 tx, 9 input, 10 output, 11 push, 13 seal, and 15 for the draft. */
public final class DraftTest {
    private static final byte[] EMPTY = new byte[0];

    private DraftTest() {
    }

    public static void main(String[] args) {
        theFirstDraftIsEmpty();
        openTakesAnyKeptBlock();
        openRefusesOthers();
        txCountsToTwelve();
        inputsOfAllKinds();
        inputRefusesInOrder();
        outputsOfAllKinds();
        scriptsHaveAtMost600Bytes();
        pushesOfAllLengths();
        pushRefusesInOrder();
        sealSpoils();
        sealRefusesLongOnes();
        sealEndsAtNonce4095();
        Check.end();
    }

    private static void same(String what, Bench x, byte[] want) {
        Check.same(what + ": length", x.judge.seal(0), want.length);
        Check.same(what, x.tape(), want);
    }

    private static void theFirstDraftIsEmpty() {
        Bench x = new Bench();
        Check.same("transactions", x.judge.tell(6), 0);
        byte[] want = Wire.mined(1, x.hash(0), Wire.NO_HASH, 1000600, Wire.EASIEST, Wire.EASIEST, true, Wire.hex("00"));
        same("the first draft", x, want);
    }

    private static void openTakesAnyKeptBlock() {
        Bench x = Bench.grown(2);
        x.add(0);
        Check.same("stored", x.judge.block(3, 2), 0);
        int[] parents = {0, 1, 2, 3};
        for (int parent : parents) {
            x.judge.open(parent, Wire.MOST);
            same("on " + parent, x, Wire.block(x.hash(parent), Wire.MOST, Wire.EASIEST));
        }
        x.judge.open(-1, 0);
        same("on the best one", x, Wire.block(x.hash(2), 0, Wire.EASIEST));
        x.add(2);
        x.judge.open(-1, 0);
        x.add(4);
        same("the best one as it was", x, Wire.block(x.hash(4), 5000000, Wire.EASIEST));
        x.judge.tx(1, 0);
        x.judge.open(1, 7);
        Check.same("without transactions", x.judge.tell(6), 0);
    }

    private static void openRefusesOthers() {
        Bench x = Bench.grown(1);
        x.judge.open(1, 77);
        x.judge.tx(1, 0);
        Check.outOfRange("-2", () -> x.judge.open(-2, 1));
        Check.outOfRange("2", () -> x.judge.open(2, 1));
        Check.outOfRange("time -1", () -> x.judge.open(0, -1));
        Check.outOfRange("time 2^32", () -> x.judge.open(0, 1L << 32));
        Check.same("not changed", x.judge.tell(6), 1);
    }

    private static void txCountsToTwelve() {
        Bench x = new Bench();
        Check.outOfRange("version -1", () -> x.judge.tx(-1, 0));
        Check.outOfRange("version 2^32", () -> x.judge.tx(1L << 32, 0));
        Check.outOfRange("lock -1", () -> x.judge.tx(1, -1));
        Check.outOfRange("lock 2^32", () -> x.judge.tx(1, 1L << 32));
        Wire.Tx[] all = new Wire.Tx[12];
        for (int i = 0; i < 12; i++) {
            all[i] = new Wire.Tx();
            all[i].version = Wire.MOST - i;
            all[i].lock = i == 0 ? Wire.MOST : i;
            Check.same("tx", x.judge.tx(all[i].version, all[i].lock), i + 1);
            Check.same("told", x.judge.tell(6), i + 1);
        }
        Check.noRoom("the 13th", () -> x.judge.tx(1, 0));
        Check.outOfRange("out of range comes first", () -> x.judge.tx(-1, 0));
        same("twelve", x, Wire.block(x.hash(0), 1000600, Wire.EASIEST, all));
    }

    private static void inputsOfAllKinds() {
        Bench x = Bench.grown(1);
        x.judge.open(0, 1000600);
        x.judge.tx(1, 0);
        Wire.Tx a = new Wire.Tx();
        x.tape("0102");
        Check.same("NONE", x.judge.input(-1, 99, -99, 0), 1);
        a.in(Wire.NO_HASH, Wire.MOST, Wire.hex("0102"), 0);
        Check.same("the tape is empty then", x.judge.tell(0), 0);
        Check.same("of a block", x.judge.input(0, 0, 3, Wire.MOST), 2);
        a.in(Wire.firstTransaction(Wire.hex("0000"), 5000000000L).id(), 3, EMPTY, Wire.MOST);
        byte[] self = a.id();
        Check.same("of itself as it is now", x.judge.input(-2, 0, -1, 5), 3);
        a.in(self, Wire.MOST, EMPTY, 5);
        x.judge.tx(2, 0);
        Wire.Tx b = new Wire.Tx();
        b.version = 2;
        x.tape("51");
        Check.same("of the draft", x.judge.input(-2, 0, Integer.MIN_VALUE, 1), 1);
        b.in(a.id(), 1L << 31, Wire.hex("51"), 1);
        byte[] id = Arrays.copyOfRange(x.blocks.get(1), 81, x.blocks.get(1).length);
        Check.same("of block 1", x.judge.input(1, 0, 0, 1), 2);
        b.in(Wire.twice(id), 0, EMPTY, 1);
        same("inputs", x, Wire.block(x.hash(0), 1000600, Wire.EASIEST, a, b));
    }

    private static void inputRefusesInOrder() {
        Bench x = Bench.grown(1);
        x.judge.open(0, 1);
        Check.tooEarly("no transaction", () -> x.judge.input(0, 0, 0, 0));
        Check.tooEarly("no transaction for NONE", () -> x.judge.input(-1, 0, 0, 0));
        Check.outOfRange("no transaction of the draft", () -> x.judge.input(-2, 0, 0, 0));
        Check.outOfRange("sequence first", () -> x.judge.input(0, 0, 0, -1));
        x.judge.tx(1, 0);
        Check.outOfRange("b -3", () -> x.judge.input(-3, 0, 0, 0));
        Check.outOfRange("b 2", () -> x.judge.input(2, 0, 0, 0));
        Check.outOfRange("t -1", () -> x.judge.input(1, -1, 0, 0));
        Check.outOfRange("t 1", () -> x.judge.input(1, 1, 0, 0));
        Check.outOfRange("t 1 of the draft", () -> x.judge.input(-2, 1, 0, 0));
        Check.outOfRange("t -1 of the draft", () -> x.judge.input(-2, -1, 0, 0));
        Check.outOfRange("sequence 2^32", () -> x.judge.input(-1, 0, 0, 1L << 32));
        for (int i = 1; i <= 6; i++) {
            Check.same("input", x.judge.input(-1, 0, 0, 0), i);
        }
        x.tape("07");
        Check.noRoom("the seventh", () -> x.judge.input(-1, 0, 0, 0));
        Check.same("the tape stays", x.tape(), Wire.hex("07"));
        Check.outOfRange("out of range comes first", () -> x.judge.input(2, 0, 0, 0));
    }

    private static void outputsOfAllKinds() {
        Bench x = new Bench();
        Check.tooEarly("no transaction", () -> x.judge.output(1));
        x.judge.tx(1, 0);
        Wire.Tx a = new Wire.Tx();
        long[] values = {0, 1, -1, Long.MIN_VALUE, Long.MAX_VALUE, 5000000000L};
        for (int i = 0; i < 6; i++) {
            x.tape(Wire.times(i, "a" + i));
            Check.same("output", x.judge.output(values[i]), i + 1);
            Check.same("the tape is empty then", x.judge.tell(0), 0);
            a.out(values[i], Wire.times(i, "a" + i));
        }
        x.tape("07");
        Check.noRoom("the seventh", () -> x.judge.output(1));
        Check.same("the tape stays", x.judge.tell(0), 1);
        same("outputs", x, Wire.block(x.hash(0), 1000600, Wire.EASIEST, a));
    }

    private static void scriptsHaveAtMost600Bytes() {
        Bench x = new Bench();
        x.judge.tx(1, 0);
        x.tape(new byte[601]);
        Check.noRoom("an input's", () -> x.judge.input(-1, 0, 0, 0));
        Check.noRoom("an output's", () -> x.judge.output(0));
        Check.same("the tape stays", x.judge.end(600), 600);
        Check.same("input", x.judge.input(-1, 0, 0, 0), 1);
        x.tape(Wire.times(253, "51"));
        Check.same("output", x.judge.output(0), 1);
        Wire.Tx a = new Wire.Tx().in(Wire.NO_HASH, Wire.MOST, new byte[600], 0).out(0, Wire.times(253, "51"));
        same("long scripts", x, Wire.block(x.hash(0), 1000600, Wire.EASIEST, a));
    }

    private static void pushesOfAllLengths() {
        int[] lengths = {0, 1, 75, 76, 77, 255, 256, 257, 597};
        for (int n : lengths) {
            Bench x = new Bench();
            x.judge.tx(1, 0);
            x.judge.input(-1, 0, 0, 9);
            x.judge.input(-1, 0, 0, 8);
            x.tape(Wire.times(n, "ab"));
            byte[] want = Wire.push(Wire.times(n, "ab"));
            Check.same("push of " + n, x.judge.push(1), want.length);
            Check.same("the tape is empty then", x.judge.tell(0), 0);
            Wire.Tx a = new Wire.Tx().in(Wire.NO_HASH, Wire.MOST, EMPTY, 9).in(Wire.NO_HASH, Wire.MOST, want, 8);
            same("a push of " + n, x, Wire.block(x.hash(0), 1000600, Wire.EASIEST, a));
        }
    }

    private static void pushRefusesInOrder() {
        Bench x = new Bench();
        Check.tooEarly("no transaction", () -> x.judge.push(0));
        Check.tooEarly("before i, too", () -> x.judge.push(-1));
        x.judge.tx(1, 0);
        Check.outOfRange("no input", () -> x.judge.push(0));
        x.judge.input(-1, 0, 0, 0);
        Check.outOfRange("-1", () -> x.judge.push(-1));
        Check.outOfRange("1", () -> x.judge.push(1));
        x.tape(new byte[598]);
        Check.noRoom("598 bytes", () -> x.judge.push(0));
        Check.same("the tape stays", x.judge.tell(0), 598);
        x.judge.end(523);
        Check.same("523 bytes", x.judge.push(0), 526);
        x.tape(new byte[74]);
        Check.noRoom("601 bytes", () -> x.judge.push(0));
        x.judge.end(73);
        Check.same("600 bytes", x.judge.push(0), 600);
        Check.noRoom("601 bytes with nothing", () -> x.judge.push(0));
        x.judge.tx(1, 0);
        Check.outOfRange("the latest one has no input", () -> x.judge.push(0));
    }

    private static void sealSpoils() {
        Bench x = Bench.grown(2);
        x.judge.open(1, 1234567);
        Wire.Tx a = Wire.firstTransaction(Wire.hex("0909"), 77);
        Wire.Tx b = new Wire.Tx().in(a, 0, Wire.hex("52")).out(5, Bench.TRUE);
        Wire.Tx c = new Wire.Tx().out(6, EMPTY);
        x.judge.tx(1, 0);
        x.tape("0909");
        x.judge.input(-1, 0, 0, Wire.MOST);
        x.tape("51");
        x.judge.output(77);
        x.judge.tx(1, 0);
        x.tape("52");
        x.judge.input(-2, 0, 0, Wire.MOST);
        x.tape("51");
        x.judge.output(5);
        x.judge.tx(1, 0);
        x.judge.output(6);
        byte[] root = Wire.root(a.id(), b.id(), c.id());
        byte[] wrong = root.clone();
        wrong[0]++;
        byte[] body = Wire.join(Wire.count(3), a.bytes(), b.bytes(), c.bytes());
        for (int spoil = 0; spoil <= 5; spoil++) {
            byte[] want = Wire.mined(spoil == 4 ? 2 : 1, spoil == 5 ? Wire.NO_HASH : x.hash(1),
                    spoil == 1 ? wrong : root, 1234567, spoil == 2 ? Wire.EASIEST - 1 : Wire.EASIEST, Wire.EASIEST,
                    spoil != 3, body);
            x.tape("aaaa");
            Check.same("length", x.judge.seal(spoil), want.length);
            Check.same("spoil " + spoil, x.tape(), want);
            Check.same("the draft stays", x.judge.tell(6), 3);
        }
        Check.outOfRange("spoil -1", () -> x.judge.seal(-1));
        Check.outOfRange("spoil 6", () -> x.judge.seal(6));
        Check.same("the tape stays", x.judge.tell(0), 80 + body.length);
    }

    private static void sealRefusesLongOnes() {
        Bench x = new Bench();
        x.judge.tx(1, 0);
        int rest = 1600 - 81 - 10;
        x.tape(new byte[600]);
        x.judge.input(-1, 0, 0, 0);
        rest -= 600 + 43;
        x.tape(new byte[600]);
        x.judge.output(0);
        rest -= 600 + 11;
        x.tape(new byte[rest - 9 + 1]);
        x.judge.output(0);
        x.tape("aabb");
        Check.noRoom("1601 bytes", () -> x.judge.seal(0));
        Check.same("the tape stays", x.tape(), Wire.hex("aabb"));
        Check.outOfRange("out of range comes first", () -> x.judge.seal(6));
        x.judge.open(0, 1000600);
        x.judge.tx(1, 0);
        x.tape(new byte[600]);
        x.judge.input(-1, 0, 0, 0);
        x.tape(new byte[600]);
        x.judge.output(0);
        x.tape(new byte[rest - 9]);
        x.judge.output(0);
        Check.same("1600 bytes", x.judge.seal(0), 1600);
    }

    /** Each eighth block makes the target four times harder here, until no nonce of 4096 may do. */
    private static void sealEndsAtNonce4095() {
        Bench x = new Bench();
        boolean ended = false;
        for (int h = 1; h < 60 && !ended; h++) {
            int parent = h - 1;
            x.judge.open(-1, x.judge.block(parent, 3) + 1);
            x.judge.tx(1, 0);
            x.tape(Wire.number(h, 2));
            x.judge.input(-1, 0, 0, Wire.MOST);
            x.tape("51");
            x.judge.output(1);
            x.judge.seal(0);
            byte[] drawn = x.tape();
            long bits = Wire.low(Arrays.copyOfRange(drawn, 72, 76)).longValue();
            Wire.Tx only = Wire.firstTransaction(Wire.number(h, 2), 1);
            byte[] want = Wire.block(x.hash(parent), x.judge.block(parent, 3) + 1, bits, only);
            Check.same("sealed at height " + h, drawn, want);
            ended = Wire.low(Wire.hashOf(drawn)).compareTo(Wire.target(bits)) > 0;
            if (ended) {
                Check.same("the last nonce", Wire.low(Arrays.copyOfRange(drawn, 76, 80)).longValue(), 4095);
                Check.same("judged", x.judge(drawn), -2);
            } else {
                Check.same("judged", x.judge(drawn), 0);
            }
        }
        Check.same("no nonce did", ended ? 1 : 0, 1);
    }
}
