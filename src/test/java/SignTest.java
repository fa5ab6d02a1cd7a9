import java.math.BigInteger;
import java.util.Arrays;

/** Promise 12 sign, and what GOOD signatures and keys are. */
public final class SignTest {
    private static final byte[] EMPTY = new byte[0];
    private static final int[] TYPES = {0, 1, 2, 3, 4, 31, 32, 33, 34, 35, 65, 128, 129, 130, 131, 162, 163, 255};

    private SignTest() {
    }

    public static void main(String[] args) {
        for (int type : TYPES) {
            signsAsTold(type);
            isGoodForItsOwn(type);
        }
        marksAreNotSigned();
        signRefusesInOrder();
        derOfAllForms();
        keysOfAllForms();
        changesThatAreSeen();
        manySignatures();
        ownPushesAreNotSigned();
        Check.end();
    }

    /** A draft of three inputs and two outputs, as it is in the judge. */
    private static Wire.Tx draft(Bench x) {
        x.judge.open(0, 1000600);
        x.judge.tx(7, 9);
        Wire.Tx a = new Wire.Tx();
        a.version = 7;
        a.lock = 9;
        byte[] id = Wire.firstTransaction(Wire.hex("0000"), 5000000000L).id();
        for (int i = 0; i < 3; i++) {
            x.tape("5" + i);
            x.judge.input(0, 0, i, 100 + i);
            a.in(id, i, Wire.hex("5" + i), 100 + i);
        }
        for (int i = 0; i < 2; i++) {
            x.tape("a" + i + "b" + i);
            x.judge.output(1000 + i);
            a.out(1000 + i, Wire.hex("a" + i + "b" + i));
        }
        return a;
    }

    private static void signsAsTold(int type) {
        for (int i = 0; i < 3; i++) {
            Bench x = new Bench();
            Wire.Tx a = draft(x);
            byte[] code = Wire.hex("76a9");
            byte[] want = Wire.push(Ec.signature(5 + i, a.signedHash(i, code, type), type));
            x.tape(code);
            Check.same("sign", x.judge.sign(i, 5 + i, type), 1 + want.length);
            Check.same("the tape is empty then", x.judge.tell(0), 0);
            Wire.In old = a.ins.get(i);
            a.ins.set(i, new Wire.In(old.id(), old.index(), Wire.join(old.script(), want), old.sequence()));
            x.judge.seal(0);
            byte[] drawn = x.tape();
            Check.same("input " + i + " type " + type, Arrays.copyOfRange(drawn, 81, drawn.length), a.bytes());
        }
    }

    private static void marksAreNotSigned() {
        Bench x = new Bench();
        Wire.Tx a = draft(x);
        // The last operation goes beyond the end: from it on all stays, the mark there too.
        byte[] code = Wire.hex("ab 02abab ab ac 4c01ab ab 05abab");
        byte[] left = Wire.hex("02abab ac 4c01ab 05abab");
        byte[] want = Wire.push(Ec.signature(0x7fffffff, a.signedHash(0, left, 1), 1));
        x.tape(code);
        x.judge.sign(0, 0x7fffffff, 1);
        x.judge.seal(0);
        Check.same("signed", Arrays.copyOfRange(x.tape(), 81 + 5 + 36 + 2, 81 + 5 + 36 + 2 + want.length), want);
    }

    private static void signRefusesInOrder() {
        Bench x = new Bench();
        Check.tooEarly("no transaction", () -> x.judge.sign(0, 1, 1));
        Check.tooEarly("first of all", () -> x.judge.sign(-1, 1, 1));
        x.judge.tx(1, 0);
        Check.outOfRange("no input", () -> x.judge.sign(0, 1, 1));
        x.tape(new byte[501]);
        x.judge.input(-1, 0, 0, 0);
        x.tape("aa");
        Check.outOfRange("i -1", () -> x.judge.sign(-1, 1, 1));
        Check.outOfRange("i 1", () -> x.judge.sign(1, 1, 1));
        Check.outOfRange("n 0", () -> x.judge.sign(0, 0, 1));
        Check.outOfRange("type -1", () -> x.judge.sign(0, 1, -1));
        Check.outOfRange("type 256", () -> x.judge.sign(0, 1, 256));
        Check.noRoom("501 bytes", () -> x.judge.sign(0, 1, 1));
        Check.same("the tape stays", x.tape(), Wire.hex("aa"));
        x.judge.end(0);
        x.tape(new byte[500]);
        Check.same("input", x.judge.input(-1, 0, 0, 0), 2);
        x.tape(new byte[1600]);
        Check.same("500 bytes, and a long code", x.judge.sign(1, 1, 1) > 560 ? 1 : 0, 1);
    }

    /** Spends what was made, in one block; what the judge says. */
    private static int spend(Wire.Tx made, Wire.Tx spender) {
        return Bench.grown(3).add(3, made, spender);
    }

    private static Wire.Tx locked(byte[] lock) {
        byte[] id = Wire.firstTransaction(Wire.hex("0000"), 5000000000L).id();
        return new Wire.Tx().in(id, 0, EMPTY, Wire.MOST).out(1000, lock).out(1000, Bench.TRUE);
    }

    private static void isGoodForItsOwn(int type) {
        byte[] lock = Wire.join(Wire.push(Ec.key(11, type % 2 == 0)), Wire.hex("ac"));
        for (int i = 0; i < 2; i++) {
            Wire.Tx made = locked(lock);
            Wire.Tx a = new Wire.Tx();
            a.in(made, 1 - i, EMPTY).in(made, i, EMPTY).out(600, Bench.TRUE);
            int at = i == 0 ? 1 : 0;
            byte[] script = Wire.push(Ec.signature(11, a.signedHash(at, lock, type), type));
            a.ins.set(at, new Wire.In(made.id(), 0, script, Wire.MOST));
            Check.same("type " + type + " for input " + at, spend(made, a), 0);
        }
    }

    /** What the judge says to a signature, made by its numbers, before KEY 3 CHECKSIG and what follows. */
    private static int judged(byte[] key, byte[] signature, String behind) {
        byte[] lock = Wire.join(Wire.push(key), Wire.hex(behind));
        Wire.Tx made = locked(lock);
        Wire.Tx a = new Wire.Tx().in(made, 0, Wire.push(signature)).out(1, Bench.TRUE);
        return spend(made, a);
    }

    /** With type 3 and no output of that number h is a constant, so a signature can be made beforehand. */
    private static int judgedSecond(byte[] key, byte[] signature, String behind) {
        byte[] lock = Wire.join(Wire.push(key), Wire.hex(behind));
        Wire.Tx made = locked(lock);
        Wire.Tx a = new Wire.Tx().in(made, 1, EMPTY).in(made, 0, Wire.push(signature)).out(1, Bench.TRUE);
        return spend(made, a);
    }

    private static void derOfAllForms() {
        byte[] h = Wire.join(Wire.hex("01"), new byte[31]);
        BigInteger[] both = Ec.numbers(3, h);
        BigInteger r = both[0];
        BigInteger s = both[1];
        byte[] key = Ec.key(3, false);
        Check.same("good", judgedSecond(key, Ec.der(r, s, 3), "ac"), 0);
        Check.same("the other s is good too", judgedSecond(key, Ec.der(r, Ec.N.subtract(s), 3), "ac"), 0);
        Check.same("not good is false", judgedSecond(key, Ec.der(s, r, 3), "ac91"), 0);
        Check.same("not good does not unlock", judgedSecond(key, Ec.der(s, r, 3), "ac"), -14);
        Check.same("nothing is false", judgedSecond(key, EMPTY, "ac91"), 0);
        BigInteger zero = BigInteger.ZERO;
        BigInteger[][] notGood = {{zero, s}, {r, zero}, {Ec.N, s}, {r, Ec.N}, {r, s.add(Ec.N)},
            {r.add(Ec.N), s}, {r, BigInteger.ONE.shiftLeft(263).subtract(BigInteger.ONE)}};
        for (BigInteger[] pair : notGood) {
            Check.same("out of range is false", judgedSecond(key, Ec.der(pair[0], pair[1], 3), "ac91"), 0);
        }
        byte[] good = Ec.der(BigInteger.valueOf(5), BigInteger.valueOf(6), 3);
        Check.same("the shortest is false", judgedSecond(key, good, "ac91"), 0);
        String[] failing = {"3006020105020106", "300602010502010603 03", "310602010502010603", "300502010502010603",
            "300702010502010603", "300603010502010603", "300602010503010603", "300602018502010603",
            "300602010502018603", "30070202000502010603", "30070201050202000603", "30050200020106 03",
            "30050201050200 03", "300602000202010603", "300602020105020003", "30",
            "00", "300602050502010603", "300602ff0502010603"};
        for (String form : failing) {
            Check.same("fails " + form, judgedSecond(key, Wire.hex(form), "ac91"), -14);
        }
        Check.same("0 in front of a high bit is due", judgedSecond(key, Wire.hex("3007020200850201 0603"), "ac91"), 0);
        byte[] long73 = Wire.hex("3046 0240" + "11".repeat(64) + "020203e8" + "01");
        Check.same("73 bytes of long numbers are false", judgedSecond(key, long73, "ac91"), 0);
        byte[] long74 = Wire.hex("3047 0241" + "11".repeat(65) + "020203e8" + "01");
        Check.same("74 bytes fail", judgedSecond(key, long74, "ac91"), -14);
    }

    private static void keysOfAllForms() {
        byte[] h = Wire.join(Wire.hex("01"), new byte[31]);
        byte[] good = Ec.signature(3, h, 3);
        byte[] narrow = Ec.key(3, false);
        byte[] whole = Ec.key(3, true);
        Check.same("33 bytes", judgedSecond(narrow, good, "ac"), 0);
        Check.same("65 bytes", judgedSecond(whole, good, "ac"), 0);
        byte[] other = narrow.clone();
        other[0] ^= 1;
        Check.same("the other y", judgedSecond(other, good, "ac91"), 0);
        byte[] mixed = whole.clone();
        mixed[0] = (byte) (6 + (whole[64] & 1));
        Check.same("06, 07 is none", judgedSecond(mixed, good, "ac91"), 0);
        byte[] off = whole.clone();
        off[64] ^= 1;
        Check.same("not on the curve", judgedSecond(off, good, "ac91"), 0);
        byte[][] none = {EMPTY, Arrays.copyOf(narrow, 32), Arrays.copyOf(narrow, 34), Arrays.copyOf(whole, 64),
            Wire.join(Wire.hex("02"), Ec.high(BigInteger.valueOf(5))), Wire.join(Wire.hex("02"), Ec.high(Ec.P)),
            Wire.join(Wire.hex("03"), Ec.high(Ec.P.add(BigInteger.ONE))), Wire.join(Wire.hex("04"), new byte[64])};
        for (byte[] key : none) {
            Check.same("no key is false", judgedSecond(key, good, "ac91"), 0);
            Check.same("a signature fails first", judgedSecond(key, Wire.hex("30"), "ac91"), -14);
        }
        Check.same("VERIFY", judgedSecond(narrow, good, "ad51"), 0);
        Check.same("VERIFY of false", judgedSecond(other, good, "ad51"), -14);
        Check.same("too few", judged(EMPTY, EMPTY, "75ac51"), -14);
    }

    /** Each type sees just what it signs. */
    private static void changesThatAreSeen() {
        byte[] lock = Wire.join(Wire.push(Ec.key(2, false)), Wire.hex("ac"));
        int[] types = {1, 2, 3, 129, 130, 131};
        // other output, own output, other input's sequence, own sequence, lock, version
        String[] seen = {"111111", "000111", "010111", "110111", "000111", "010111"};
        for (int k = 0; k < types.length; k++) {
            for (int change = 0; change < 6; change++) {
                Wire.Tx made = locked(lock);
                Wire.Tx a = new Wire.Tx();
                a.in(made, 0, EMPTY).in(made, 1, EMPTY).out(100, Bench.TRUE).out(200, Bench.TRUE);
                byte[] script = Wire.push(Ec.signature(2, a.signedHash(0, lock, types[k]), types[k]));
                a.ins.set(0, new Wire.In(made.id(), 0, script, change == 3 ? 1 : Wire.MOST));
                a.ins.set(1, new Wire.In(made.id(), 1, EMPTY, change == 2 ? 1 : Wire.MOST));
                a.outs.set(1, new Wire.Out(change == 0 ? 201 : 200, Bench.TRUE));
                a.outs.set(0, new Wire.Out(change == 1 ? 101 : 100, Bench.TRUE));
                a.lock = change == 4 ? 1 : 0;
                a.version = change == 5 ? 2 : 1;
                int want = seen[k].charAt(change) == '1' ? -14 : 0;
                Check.same("type " + types[k] + " change " + change, spend(made, a), want);
            }
        }
    }

    private static int many(int[] by, int needed, int[] keys, String behind) {
        byte[] lock = Wire.number(80 + needed, 1);
        for (int key : keys) {
            lock = Wire.join(lock, Wire.push(Ec.key(key, false)));
        }
        lock = Wire.join(lock, Wire.number(80 + keys.length, 1), Wire.hex(behind));
        Wire.Tx made = locked(lock);
        Wire.Tx a = new Wire.Tx().in(made, 0, EMPTY).out(1, Bench.TRUE);
        byte[] script = Wire.hex("00");
        for (int key : by) {
            byte[] signature = key == 0 ? EMPTY : Wire.hex("30");
            if (key > 0) {
                signature = Ec.signature(key, a.signedHash(0, lock, 1), 1);
            }
            script = Wire.join(script, Wire.push(signature));
        }
        a.ins.set(0, new Wire.In(made.id(), 0, script, Wire.MOST));
        return spend(made, a);
    }

    private static void manySignatures() {
        int[] keys = {1, 2, 3};
        Check.same("1 of 1", many(new int[] {1}, 1, new int[] {1}, "ae"), 0);
        Check.same("the first of 3", many(new int[] {1}, 1, keys, "ae"), 0);
        Check.same("the last of 3", many(new int[] {3}, 1, keys, "ae"), 0);
        Check.same("2 of 3", many(new int[] {1, 3}, 2, keys, "ae"), 0);
        Check.same("3 of 3", many(new int[] {1, 2, 3}, 3, keys, "ae"), 0);
        Check.same("VERIFY", many(new int[] {2, 3}, 2, keys, "af51"), 0);
        Check.same("in another order", many(new int[] {3, 1}, 2, keys, "ae"), -14);
        Check.same("in another order it is false", many(new int[] {3, 1}, 2, keys, "ae91"), 0);
        Check.same("the same one twice", many(new int[] {1, 1}, 2, keys, "ae91"), 0);
        Check.same("an empty one", many(new int[] {1, 0}, 2, keys, "ae91"), 0);
        Check.same("a bad one that is looked at", many(new int[] {1, -1}, 2, keys, "ae91"), -14);
        Check.same("a bad one that is not", many(new int[] {-1, 9}, 2, new int[] {1, 2}, "ae91"), 0);
        Check.same("of another key", many(new int[] {9}, 1, keys, "ae91"), 0);
        Check.same("VERIFY of false", many(new int[] {9}, 1, keys, "af51"), -14);
    }

    /** A signature that the script itself pushes is not part of what it signs; nor is what lies before a mark. */
    private static void ownPushesAreNotSigned() {
        byte[] key = Wire.push(Ec.key(4, false));
        Wire.Tx made = locked(Bench.TRUE);
        Wire.Tx a = new Wire.Tx().in(made, 0, EMPTY).out(1, Bench.TRUE);
        byte[] behind = Wire.join(key, Wire.hex("ad"));
        byte[] signature = Ec.signature(4, a.signedHash(0, behind, 1), 1);
        byte[] once = Wire.join(Wire.push(signature), behind);
        Check.same("its own push", own(made, a, once), 0);
        byte[] marked = Wire.join(Wire.hex("61ab"), Wire.push(signature), behind);
        Check.same("behind a mark", own(made, a, marked), 0);
        byte[] unmarked = Wire.join(Wire.hex("0063ab6861"), Wire.push(signature), behind);
        Check.same("a mark that is not done", own(made, a, unmarked), -14);
        byte[] otherForm = Wire.join(Wire.number(76 | signature.length << 8, 2), signature, behind);
        Check.same("a push in another form stays", own(made, a, otherForm), -14);
        byte[] left = Wire.join(Wire.hex("00"), Wire.hex("51"), key, Wire.hex("51af"));
        signature = Ec.signature(4, a.signedHash(0, left, 1), 1);
        byte[] list = Wire.join(Wire.hex("00"), Wire.push(signature), Wire.hex("51"), key, Wire.hex("51af"));
        Check.same("of many", own(made, a, list), 0);
        Check.same("marks behind are not signed", own(made, a, Wire.join(list, Wire.hex("ab"))), 0);
    }

    private static int own(Wire.Tx made, Wire.Tx a, byte[] script) {
        a.ins.set(0, new Wire.In(made.id(), 0, script, Wire.MOST));
        return spend(made, a);
    }
}
