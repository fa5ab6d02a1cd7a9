import java.util.Arrays;

/** TRANSACTION and BLOCK as bytes, and COUNT: reason 1 of promise 14, before all others. */
public final class ReadTest {
    private static final byte[] EMPTY = Bench.EMPTY;
    private static final int NO_BLOCK = -1;
    /** What tells that the bytes were read: the root in the head is that of other transactions. */
    private static final int READ = -6;

    private ReadTest() {
    }

    public static void main(String[] args) {
        everyCut();
        noMoreBytes();
        atMostTwelveTransactions();
        noTransactionIsReadToo();
        countsInTheShortestForm();
        countsFarTooHigh();
        countsAt253();
        longForms();
        countsAtTheEndOfAFullTape();
        asManyAsATapeHolds();
        theEndOfAFullTape();
        scriptsUpToTheEnd();
        Check.end();
    }

    private static byte[] head() {
        return Arrays.copyOf(new Bench().block(0, 1000600), 80);
    }

    private static int judged(byte[]... parts) {
        return new Bench().judge(Wire.join(parts));
    }

    private static void everyCut() {
        byte[] fine = new Bench().block(0, 1000600);
        for (int n = 0; n < fine.length; n++) {
            Check.same("cut at " + n, judged(Arrays.copyOf(fine, n)), NO_BLOCK);
        }
        Check.same("whole", judged(fine), 0);
    }

    private static void noMoreBytes() {
        Bench x = new Bench();
        byte[] fine = x.block(0, 1000600);
        Check.same("one more byte", x.judge(Arrays.copyOf(fine, fine.length + 1)), NO_BLOCK);
        Check.same("nothing kept", x.judge.tell(2), 1);
        Check.same("as many as a tape has", x.judge(Arrays.copyOf(fine, 1600)), NO_BLOCK);
        Check.same("whole", x.judge(fine), 0);
    }

    /** A transaction of nothing has ten bytes: version, two counts, lock. */
    private static void atMostTwelveTransactions() {
        for (int n = 1; n <= 12; n++) {
            Check.same(n + " of nothing", judged(head(), Wire.number(n, 1), new byte[10 * n]), READ);
            Check.same(n + " and a byte less", judged(head(), Wire.number(n, 1), new byte[10 * n - 1]), NO_BLOCK);
        }
        for (int n : new int[] {13, 14, 127, 128, 252}) {
            int room = Math.min(10 * n, 1519);
            Check.same(n + " of nothing", judged(head(), Wire.number(n, 1), new byte[room]), NO_BLOCK);
        }
    }

    private static void noTransactionIsReadToo() {
        Check.same("a count of 0", judged(head(), Wire.hex("00")), -7);
        Check.same("and a byte", judged(head(), Wire.hex("0000")), NO_BLOCK);
        Check.same("no count", judged(head()), NO_BLOCK);
    }

    private static byte[] body(String inputs, String scriptSize, String outputs, String outputSize) {
        return Wire.join(Wire.hex("01 01000000" + inputs), Wire.NO_HASH, Wire.hex("ffffffff" + scriptSize + "0102"),
                Wire.hex("ffffffff" + outputs + "0100000000000000" + outputSize + "03 00000000"));
    }

    private static void countsInTheShortestForm() {
        Check.same("shortest", judged(head(), body("01", "02", "01", "01")), READ);
        String[] longer = {"fd0100", "fe01000000", "ff0100000000000000"};
        for (String one : longer) {
            Check.same("inputs " + one, judged(head(), body(one, "02", "01", "01")), NO_BLOCK);
            String two = one.replaceFirst("01", "02");
            Check.same("script " + two, judged(head(), body("01", two, "01", "01")), NO_BLOCK);
            Check.same("outputs " + one, judged(head(), body("01", "02", one, "01")), NO_BLOCK);
            Check.same("output's script " + one, judged(head(), body("01", "02", "01", one)), NO_BLOCK);
            byte[] behind = Arrays.copyOfRange(body("01", "02", "01", "01"), 1, 63);
            Check.same("transactions " + one, judged(head(), Wire.hex(one), behind), NO_BLOCK);
        }
    }

    private static void countsFarTooHigh() {
        String[] huge = {"fdffff", "fe00000100", "feffffffff", "ff0000000001000000", "ffffffffffffffffff",
            "ff0000000000000080"};
        for (String count : huge) {
            Check.same("inputs " + count, judged(head(), body(count, "02", "01", "01")), NO_BLOCK);
            Check.same("script " + count, judged(head(), body("01", count, "01", "01")), NO_BLOCK);
            Check.same("outputs " + count, judged(head(), body("01", "02", count, "01")), NO_BLOCK);
            Check.same("output's script " + count, judged(head(), body("01", "02", "01", count)), NO_BLOCK);
            Check.same("transactions " + count, judged(head(), Wire.hex(count), new byte[100]), NO_BLOCK);
        }
        Check.same("a script a byte too long", judged(head(), body("01", "03", "01", "01")), NO_BLOCK);
        Check.same("a script a byte too short", judged(head(), body("01", "01", "01", "01")), NO_BLOCK);
    }

    private static void countsAt253() {
        for (int n : new int[] {252, 253, 254, 255, 256}) {
            byte[] in = new Wire.Tx().in(Wire.NO_HASH, Wire.MOST, new byte[n], 0).out(1, EMPTY).bytes();
            byte[] out = new Wire.Tx().in(Wire.NO_HASH, Wire.MOST, EMPTY, 0).out(1, new byte[n]).bytes();
            Check.same("an input's script of " + n, judged(head(), Wire.hex("01"), in), READ);
            Check.same("an output's script of " + n, judged(head(), Wire.hex("01"), out), READ);
        }
        for (String count : new String[] {"fdfc00", "fefc000000", "fffc00000000000000"}) {
            Check.same("252 as " + count, judged(head(), ofScript(count, 252)), NO_BLOCK);
        }
    }

    /** A block's transaction whose input has a script of so many bytes, by this count. */
    private static byte[] ofScript(String count, int bytes) {
        return Wire.join(Wire.hex("01 01000000 01"), Wire.NO_HASH, Wire.hex("ffffffff" + count),
                Wire.times(bytes, "61"), Wire.hex("ffffffff 01 0100000000000000 00 00000000"));
    }

    /** 254 and 255 are no counts of one byte, and what they tell here has a shorter form. */
    private static void longForms() {
        Check.same("253", judged(head(), ofScript("fdfd00", 253)), READ);
        String[] counts = {"fe", "ff", "fefd000000", "fffd00000000000000", "fe00040000", "ff0004000000000000", "fd"};
        int[] bytes = {254, 255, 253, 253, 1024, 1024, 253};
        for (int i = 0; i < counts.length; i++) {
            Check.same(bytes[i] + " as " + counts[i], judged(head(), ofScript(counts[i], bytes[i])), NO_BLOCK);
        }
    }

    /** A count of three bytes is cut by the end of a full tape; what was judged before must not be read. */
    private static void countsAtTheEndOfAFullTape() {
        byte[] head = head();
        String[] behind = {"", "00 00000000", "00 00000000 01000000", "01 0100000000000000"};
        String[] what = {"outputs", "the next version", "inputs", "an output's script"};
        for (int i = 0; i < behind.length; i++) {
            byte[] rest = Wire.hex(behind[i]);
            for (int at = 1594; at < 1600; at++) {
                int script = at - rest.length - 81 - 4 - 1 - 36 - 3 - 4;
                byte[] in = new Wire.Tx().in(Wire.NO_HASH, Wire.MOST, new byte[script], 0).bytes();
                byte[] part = Arrays.copyOf(in, in.length - 5);
                byte[] all = Wire.join(head, Wire.hex("02"), part, rest, Wire.times(6, "fd"));
                Check.same("a count of " + what[i] + " at " + at, judged(Arrays.copyOf(all, 1600)), NO_BLOCK);
            }
        }
    }

    /** 40 inputs and 180 outputs would need more than 1600 bytes; what fits is read. */
    private static void asManyAsATapeHolds() {
        Wire.Tx inputs = new Wire.Tx();
        for (int i = 0; i < 36; i++) {
            inputs.in(Bench.COIN_0, i, EMPTY, 0);
        }
        Check.same("36 inputs", judged(head(), Wire.hex("01"), inputs.out(1, EMPTY).bytes()), READ);
        Wire.Tx outputs = new Wire.Tx().in(Wire.NO_HASH, Wire.MOST, EMPTY, 0);
        for (int o = 0; o < 163; o++) {
            outputs.out(0, EMPTY);
        }
        Check.same("163 outputs", judged(head(), Wire.hex("01"), outputs.bytes()), READ);
        for (int n : new int[] {40, 41, 180, 181, 252}) {
            byte[] many = Wire.join(Wire.hex("01 01000000"), Wire.number(n, 1), new byte[1513]);
            Check.same("a count of inputs of " + n, judged(head(), many), NO_BLOCK);
            many = Wire.join(Wire.hex("01 01000000 00"), Wire.number(n, 1), new byte[1512]);
            Check.same("a count of outputs of " + n, judged(head(), many), NO_BLOCK);
        }
    }

    /** The end of a tape without room for more comes at every place of a transaction. */
    private static void theEndOfAFullTape() {
        byte[] head = head();
        for (int size = 1380; size < 1480; size++) {
            Wire.Tx long1 = new Wire.Tx().in(Wire.NO_HASH, Wire.MOST, new byte[size], 0).out(1, Wire.times(3, "fd"));
            byte[] all = Wire.join(head, Wire.hex("01"), long1.bytes(), Wire.times(200, "fd"));
            int want = 81 + long1.bytes().length == 1600 ? READ : NO_BLOCK;
            Check.same("a script of " + size, judged(Arrays.copyOf(all, 1600)), want);
            Wire.Tx long2 = new Wire.Tx().in(Wire.NO_HASH, Wire.MOST, new byte[size - 50], 0);
            all = Wire.join(head, Wire.hex("01"), Arrays.copyOf(long2.bytes(), 48 + size - 50), Wire.times(200, "fd"));
            Check.same("long counts behind " + size, judged(Arrays.copyOf(all, 1600)), NO_BLOCK);
        }
    }

    private static void scriptsUpToTheEnd() {
        byte[] head = head();
        for (int size = 1459; size < 1479; size++) {
            Wire.Tx tx = new Wire.Tx().in(Wire.NO_HASH, Wire.MOST, new byte[size], 0).out(1, Wire.hex("51"));
            byte[] all = Wire.join(head, Wire.hex("01"), tx.bytes(), new byte[200]);
            int want = 81 + tx.bytes().length == 1600 ? READ : NO_BLOCK;
            Check.same("a script before the end: " + size, judged(Arrays.copyOf(all, 1600)), want);
        }
    }
}
