import java.math.BigInteger;
import java.util.Arrays;

/** GOOD signatures and keys, and what is signed: operations 172 .. 175 of promise 14. */
public final class GoodTest {
    private static final byte[] EMPTY = Bench.EMPTY;
    private static final int[] TYPES = {0, 1, 2, 3, 4, 31, 32, 33, 34, 35, 65, 128, 129, 130, 131, 162, 163, 255};
    /** What is signed where type 3 finds no output. */
    private static final byte[] ONE = Wire.join(Wire.hex("01"), new byte[31]);
    private static final BigInteger H = new BigInteger(1, ONE);

    private GoodTest() {
    }

    public static void main(String[] args) {
        for (int type : TYPES) {
            isGoodForItsOwn(type);
        }
        derOfAllForms();
        numbersAtTheirBounds();
        xBeyondTheOrder();
        rBeyondThePrime();
        nothingIsLeftOfTheOneBefore();
        sumsWithoutCoordinates();
        sumsOfTheSamePoint();
        keysOfAllForms();
        changesThatAreSeen();
        manySignatures();
        ownPushesAreNotSigned();
        pushesOfAllMAreNotSigned();
        ownPushesOfAllLengths();
        twoInOneScript();
        twentyKeys();
        theLatestMark();
        marksOfOtherScripts();
        longCodes();
        innerCodes();
        Check.end();
    }

    /** Spends what was made, in one block; what the judge says. */
    private static int spend(Wire.Tx made, Wire.Tx spender) {
        return Bench.grown(3).add(3, made, spender);
    }

    private static Wire.Tx locked(byte[] lock) {
        byte[] id = Wire.firstTransaction(Wire.hex("0000"), 5000000000L).id();
        return new Wire.Tx().in(id, 0, EMPTY, Wire.MOST).out(1000, lock).out(1000, Bench.TRUE);
    }

    private static void isGoodForItsOwn(int type) {
        byte[] lock = Wire.join(Wire.push(Ec.key(11, type % 2 == 0)), Wire.hex("ac"));
        for (int i = 0; i < 2; i++) {
            Wire.Tx made = locked(lock);
            Wire.Tx a = new Wire.Tx();
            a.in(made, 1 - i, EMPTY).in(made, i, EMPTY).out(600, Bench.TRUE);
            int at = i == 0 ? 1 : 0;
            byte[] script = Wire.push(Ec.signature(11, a.signedHash(at, lock, type), type));
            a.ins.set(at, new Wire.In(made.id(), 0, script, Wire.MOST));
            Check.same("type " + type + " for input " + at, spend(made, a), 0);
        }
    }

    /** What the judge says to a signature, made by its numbers, before KEY 3 CHECKSIG and what follows. */
    private static int judged(byte[] key, byte[] signature, String behind) {
        byte[] lock = Wire.join(Wire.push(key), Wire.hex(behind));
        Wire.Tx made = locked(lock);
        Wire.Tx a = new Wire.Tx().in(made, 0, Wire.push(signature)).out(1, Bench.TRUE);
        return spend(made, a);
    }

    /** With type 3 and no output of that number h is a constant, so a signature can be made beforehand. */
    private static int judgedSecond(byte[] key, byte[] signature, String behind) {
        byte[] lock = Wire.join(Wire.push(key), Wire.hex(behind));
        Wire.Tx made = locked(lock);
        Wire.Tx a = new Wire.Tx().in(made, 1, EMPTY).in(made, 0, Wire.push(signature)).out(1, Bench.TRUE);
        return spend(made, a);
    }

    private static void derOfAllForms() {
        BigInteger[] both = Ec.numbers(3, ONE);
        BigInteger r = both[0];
        BigInteger s = both[1];
        byte[] key = Ec.key(3, false);
        Check.same("good", judgedSecond(key, Ec.der(r, s, 3), "ac"), 0);
        Check.same("the other s is good too", judgedSecond(key, Ec.der(r, Ec.N.subtract(s), 3), "ac"), 0);
        Check.same("not good is false", judgedSecond(key, Ec.der(s, r, 3), "ac91"), 0);
        Check.same("not good does not unlock", judgedSecond(key, Ec.der(s, r, 3), "ac"), -14);
        Check.same("nothing is false", judgedSecond(key, EMPTY, "ac91"), 0);
        BigInteger zero = BigInteger.ZERO;
        BigInteger[][] notGood = {{zero, s}, {r, zero}, {Ec.N, s}, {r, Ec.N}, {r, s.add(Ec.N)},
            {r.add(Ec.N), s}, {r, BigInteger.ONE.shiftLeft(263).subtract(BigInteger.ONE)},
            {r, s.add(BigInteger.ONE.shiftLeft(256))}, {r.add(BigInteger.ONE.shiftLeft(256)), s},
            {r, s.add(BigInteger.ONE.shiftLeft(262))}};
        for (BigInteger[] pair : notGood) {
            Check.same("out of range is false", judgedSecond(key, Ec.der(pair[0], pair[1], 3), "ac91"), 0);
        }
        byte[] good = Ec.der(BigInteger.valueOf(5), BigInteger.valueOf(6), 3);
        Check.same("the shortest is false", judgedSecond(key, good, "ac91"), 0);
        String[] failing = {"3006020105020106", "300602010502010603 03", "310602010502010603", "300502010502010603",
            "300702010502010603", "300603010502010603", "300602010503010603", "300602018502010603",
            "300602010502018603", "30070202000502010603", "30070201050202000603", "30050200020106 03",
            "30050201050200 03", "300602000202010603", "300602020105020003", "30",
            "00", "300602050502010603", "300602ff0502010603", "30070202000002010603", "30070201050202000003",
            "3007020200 7f 02010603", "3007020105 0202007f03", "3007 0202 8085 020106 03"};
        for (String form : failing) {
            Check.same("fails " + form, judgedSecond(key, Wire.hex(form), "ac91"), -14);
        }
        Check.same("0 in front of a high bit is due", judgedSecond(key, Wire.hex("3007020200850201 0603"), "ac91"), 0);
        byte[] long73 = Wire.hex("3046 0240" + "11".repeat(64) + "020203e8" + "01");
        Check.same("73 bytes of long numbers are false", judgedSecond(key, long73, "ac91"), 0);
        byte[] long74 = Wire.hex("3047 0241" + "11".repeat(65) + "020203e8" + "01");
        Check.same("74 bytes fail", judgedSecond(key, long74, "ac91"), -14);
    }

    private static BigInteger number(long n) {
        return BigInteger.valueOf(n);
    }

    private static int judgedFor(BigInteger[] key, BigInteger r, BigInteger s, String behind) {
        Check.same("both forms of the key", judgedSecond(Ec.bytes(key, true), Ec.der(r, s, 3), behind),
                judgedSecond(Ec.bytes(key, false), Ec.der(r, s, 3), behind));
        return judgedSecond(Ec.bytes(key, false), Ec.der(r, s, 3), behind);
    }

    /** s 1 and n - 1 are in range, 0 and n are not, though they would do as numbers modulo n. */
    private static void numbersAtTheirBounds() {
        BigInteger[] point = Ec.times(number(77), Ec.G);
        BigInteger r = point[0].mod(Ec.N);
        BigInteger most = Ec.N.subtract(BigInteger.ONE);
        for (BigInteger s : new BigInteger[] {BigInteger.ONE, number(2), most, Ec.N.shiftRight(1)}) {
            Check.same("s " + s, judgedFor(Ec.keyFor(point, s, H), r, s, "ac"), 0);
        }
        BigInteger[] key = Ec.keyFor(point, BigInteger.ONE, H);
        Check.same("s of n + 1", judgedSecond(Ec.bytes(key, false), Ec.der(r, Ec.N.add(BigInteger.ONE), 3), "ac91"), 0);
        BigInteger low = lowX(BigInteger.ONE, 1);
        BigInteger high = lowX(most, -1);
        for (BigInteger x : new BigInteger[] {low, high}) {
            BigInteger s = number(5);
            Check.same("r " + x, judgedFor(Ec.keyFor(Ec.lift(x), s, H), x, s, "ac"), 0);
        }
        key = Ec.keyFor(Ec.lift(low), number(5), H);
        byte[] beyond = Ec.der(low.add(Ec.N), number(5), 3);
        Check.same("r and n more", judgedSecond(Ec.bytes(key, false), beyond, "ac91"), 0);
    }

    /** The first x that a point has, from here on. */
    private static BigInteger lowX(BigInteger from, long step) {
        BigInteger x = from;
        while (Ec.lift(x) == null) {
            x = x.add(number(step));
        }
        return x;
    }

    /** Where x is n and more, r is x - n; r with nothing more is good too only if that is the sum's x. */
    private static void xBeyondTheOrder() {
        BigInteger first = lowX(Ec.N.add(BigInteger.ONE), 1);
        BigInteger last = lowX(Ec.P.subtract(BigInteger.ONE), -1);
        for (BigInteger x : new BigInteger[] {first, last}) {
            BigInteger s = number(9);
            BigInteger[] key = Ec.keyFor(Ec.lift(x), s, H);
            Check.same("x " + x, judgedFor(key, x.subtract(Ec.N), s, "ac"), 0);
            Check.same("another r", judgedFor(key, x.subtract(Ec.N).add(BigInteger.ONE), s, "ac91"), 0);
        }
    }

    /** The sum's x is r + n modulo the prime, but r + n is not below the prime: that is not r modulo n. */
    private static void rBeyondThePrime() {
        BigInteger x = lowX(BigInteger.ONE, 1);
        BigInteger r = x.add(Ec.P).subtract(Ec.N);
        BigInteger s = number(9);
        BigInteger[] key = Ec.keyFor(Ec.lift(x), r, s, H);
        Check.same("r " + r, judgedFor(key, r, s, "ac91"), 0);
        Check.same("the least that is too high", Ec.P.subtract(Ec.N).compareTo(r) < 0 ? 1 : 0, 1);
    }

    /** A good signature is looked at first; then what is not good, with the same numbers as far as they go. */
    private static void nothingIsLeftOfTheOneBefore() {
        byte[] key = Ec.key(3, false);
        BigInteger[] both = Ec.numbers(3, ONE);
        byte[] good = Ec.der(both[0], both[1], 3);
        byte[] whole = Ec.key(3, true);
        byte[] off = whole.clone();
        off[64] ^= 1;
        byte[][] noKeys = {EMPTY, Arrays.copyOf(key, 32), Arrays.copyOf(key, 34), Arrays.copyOf(whole, 33), off,
            Arrays.copyOf(whole, 64), Wire.join(Wire.hex("04"), Arrays.copyOfRange(key, 1, 33))};
        for (byte[] none : noKeys) {
            Check.same("no key of " + none.length, judgedPair(key, good, none, good), 0);
        }
        BigInteger[][] wrong = {{both[0], BigInteger.ZERO}, {both[0], Ec.N}, {both[0], both[1].add(Ec.N)},
            {both[0].add(Ec.N), both[1]}, {BigInteger.ZERO, both[1]}, {both[0], BigInteger.ONE.shiftLeft(256)}};
        for (BigInteger[] pair : wrong) {
            Check.same("out of range " + pair[1], judgedPair(key, good, key, Ec.der(pair[0], pair[1], 3)), 0);
        }
        Check.same("nothing", judgedPair(key, good, key, EMPTY), 0);
        Check.same("the same once more is good", judgedPair(key, good, key, good), -14);
    }

    /** The first key's signature must be good, the second key's not. */
    private static int judgedPair(byte[] key, byte[] signature, byte[] other, byte[] otherSignature) {
        byte[] lock = Wire.join(Wire.push(key), Wire.hex("ad"), Wire.push(other), Wire.hex("ac91"));
        Wire.Tx made = locked(lock);
        byte[] script = Wire.join(Wire.push(otherSignature), Wire.push(signature));
        return spend(made, new Wire.Tx().in(made, 1, EMPTY).in(made, 0, script).out(1, Bench.TRUE));
    }

    /** h + r k is 0 modulo n: there is no x. */
    private static void sumsWithoutCoordinates() {
        for (long n : new long[] {1, 5, 77}) {
            BigInteger r = number(n);
            BigInteger k = H.negate().multiply(r.modInverse(Ec.N)).mod(Ec.N);
            BigInteger[] key = Ec.times(k, Ec.G);
            for (long s : new long[] {1, 6}) {
                Check.same("r " + r + " s " + s, judgedFor(key, r, number(s), "ac91"), 0);
            }
        }
    }

    /** u G and v K are the same point, so that it is doubled. */
    private static void sumsOfTheSamePoint() {
        for (long n : new long[] {1, 2, 16, 1000003}) {
            BigInteger u = number(n);
            BigInteger r = Ec.times(u.shiftLeft(1), Ec.G)[0].mod(Ec.N);
            BigInteger k = H.multiply(r.modInverse(Ec.N)).mod(Ec.N);
            BigInteger s = H.multiply(u.modInverse(Ec.N)).mod(Ec.N);
            Check.same("u " + n, judgedFor(Ec.times(k, Ec.G), r, s, "ac"), 0);
        }
    }

    private static void keysOfAllForms() {
        byte[] good = Ec.signature(3, ONE, 3);
        byte[] narrow = Ec.key(3, false);
        byte[] whole = Ec.key(3, true);
        Check.same("33 bytes", judgedSecond(narrow, good, "ac"), 0);
        Check.same("65 bytes", judgedSecond(whole, good, "ac"), 0);
        byte[] other = narrow.clone();
        other[0] ^= 1;
        Check.same("the other y", judgedSecond(other, good, "ac91"), 0);
        byte[] mixed = whole.clone();
        mixed[0] = (byte) (6 + (whole[64] & 1));
        Check.same("06, 07 is none", judgedSecond(mixed, good, "ac91"), 0);
        byte[] off = whole.clone();
        off[64] ^= 1;
        Check.same("not on the curve", judgedSecond(off, good, "ac91"), 0);
        byte[][] none = {EMPTY, Arrays.copyOf(narrow, 32), Arrays.copyOf(narrow, 34), Arrays.copyOf(whole, 64),
            Wire.join(Wire.hex("02"), Ec.high(BigInteger.valueOf(5))), Wire.join(Wire.hex("02"), Ec.high(Ec.P)),
            Wire.join(Wire.hex("03"), Ec.high(Ec.P.add(BigInteger.ONE))), Wire.join(Wire.hex("04"), new byte[64])};
        for (byte[] key : none) {
            Check.same("no key is false", judgedSecond(key, good, "ac91"), 0);
            Check.same("a signature fails first", judgedSecond(key, Wire.hex("30"), "ac91"), -14);
        }
        Check.same("VERIFY", judgedSecond(narrow, good, "ad51"), 0);
        Check.same("VERIFY of false", judgedSecond(other, good, "ad51"), -14);
        Check.same("too few", judged(EMPTY, EMPTY, "75ac51"), -14);
    }

    /** Each type sees just what it signs. */
    private static void changesThatAreSeen() {
        byte[] lock = Wire.join(Wire.push(Ec.key(2, false)), Wire.hex("ac"));
        int[] types = {1, 2, 3, 129, 130, 131};
        // other output, own output, other input's sequence, own sequence, lock, version
        String[] seen = {"111111", "000111", "010111", "110111", "000111", "010111"};
        for (int k = 0; k < types.length; k++) {
            for (int change = 0; change < 6; change++) {
                Wire.Tx made = locked(lock);
                Wire.Tx a = new Wire.Tx();
                a.in(made, 0, EMPTY).in(made, 1, EMPTY).out(100, Bench.TRUE).out(200, Bench.TRUE);
                byte[] script = Wire.push(Ec.signature(2, a.signedHash(0, lock, types[k]), types[k]));
                a.ins.set(0, new Wire.In(made.id(), 0, script, change == 3 ? 1 : Wire.MOST));
                a.ins.set(1, new Wire.In(made.id(), 1, EMPTY, change == 2 ? 1 : Wire.MOST));
                a.outs.set(1, new Wire.Out(change == 0 ? 201 : 200, Bench.TRUE));
                a.outs.set(0, new Wire.Out(change == 1 ? 101 : 100, Bench.TRUE));
                a.lock = change == 4 ? 1 : 0;
                a.version = change == 5 ? 2 : 1;
                int want = seen[k].charAt(change) == '1' ? -14 : 0;
                Check.same("type " + types[k] + " change " + change, spend(made, a), want);
            }
        }
    }

    private static int many(int[] by, int needed, int[] keys, String behind) {
        byte[] lock = Wire.number(80 + needed, 1);
        for (int key : keys) {
            lock = Wire.join(lock, Wire.push(Ec.key(key, false)));
        }
        lock = Wire.join(lock, Wire.push(Wire.number(keys.length, 1)), Wire.hex(behind));
        Wire.Tx made = locked(lock);
        Wire.Tx a = new Wire.Tx().in(made, 0, EMPTY).out(1, Bench.TRUE);
        byte[] script = Wire.hex("00");
        for (int key : by) {
            byte[] signature = key == 0 ? EMPTY : Wire.hex("30");
            if (key > 0) {
                signature = Ec.signature(key, a.signedHash(0, lock, 1), 1);
            }
            script = Wire.join(script, Wire.push(signature));
        }
        a.ins.set(0, new Wire.In(made.id(), 0, script, Wire.MOST));
        return spend(made, a);
    }

    private static void manySignatures() {
        int[] keys = {1, 2, 3};
        Check.same("1 of 1", many(new int[] {1}, 1, new int[] {1}, "ae"), 0);
        Check.same("the first of 3", many(new int[] {1}, 1, keys, "ae"), 0);
        Check.same("the last of 3", many(new int[] {3}, 1, keys, "ae"), 0);
        Check.same("2 of 3", many(new int[] {1, 3}, 2, keys, "ae"), 0);
        Check.same("3 of 3", many(new int[] {1, 2, 3}, 3, keys, "ae"), 0);
        Check.same("VERIFY", many(new int[] {2, 3}, 2, keys, "af51"), 0);
        Check.same("in another order", many(new int[] {3, 1}, 2, keys, "ae"), -14);
        Check.same("in another order it is false", many(new int[] {3, 1}, 2, keys, "ae91"), 0);
        Check.same("the same one twice", many(new int[] {1, 1}, 2, keys, "ae91"), 0);
        Check.same("an empty one", many(new int[] {1, 0}, 2, keys, "ae91"), 0);
        Check.same("a bad one that is looked at", many(new int[] {1, -1}, 2, keys, "ae91"), -14);
        Check.same("a bad one that is not", many(new int[] {-1, 9}, 2, new int[] {1, 2}, "ae91"), 0);
        Check.same("of another key", many(new int[] {9}, 1, keys, "ae91"), 0);
        Check.same("VERIFY of false", many(new int[] {9}, 1, keys, "af51"), -14);
    }

    /** A signature that the script itself pushes is not part of what it signs; nor is what lies before a mark. */
    private static void ownPushesAreNotSigned() {
        byte[] key = Wire.push(Ec.key(4, false));
        Wire.Tx made = locked(Bench.TRUE);
        Wire.Tx a = new Wire.Tx().in(made, 0, EMPTY).out(1, Bench.TRUE);
        byte[] behind = Wire.join(key, Wire.hex("ad"));
        byte[] signature = Ec.signature(4, a.signedHash(0, behind, 1), 1);
        byte[] once = Wire.join(Wire.push(signature), behind);
        Check.same("its own push", own(made, a, once), 0);
        byte[] marked = Wire.join(Wire.hex("61ab"), Wire.push(signature), behind);
        Check.same("behind a mark", own(made, a, marked), 0);
        byte[] unmarked = Wire.join(Wire.hex("0063ab6861"), Wire.push(signature), behind);
        Check.same("a mark that is not done", own(made, a, unmarked), -14);
        byte[] otherForm = Wire.join(Wire.number(76 | signature.length << 8, 2), signature, behind);
        Check.same("a push in another form stays", own(made, a, otherForm), -14);
        byte[] left = Wire.join(Wire.hex("00"), Wire.hex("51"), key, Wire.hex("51af"));
        signature = Ec.signature(4, a.signedHash(0, left, 1), 1);
        byte[] list = Wire.join(Wire.hex("00"), Wire.push(signature), Wire.hex("51"), key, Wire.hex("51af"));
        Check.same("of many", own(made, a, list), 0);
        Check.same("marks behind are not signed", own(made, a, Wire.join(list, Wire.hex("ab"))), 0);
    }

    private static int own(Wire.Tx made, Wire.Tx a, byte[] script) {
        a.ins.set(0, new Wire.In(made.id(), 0, script, Wire.MOST));
        return spend(made, a);
    }

    /** The script pushes both signatures itself: neither is part of what they sign. */
    private static void pushesOfAllMAreNotSigned() {
        Wire.Tx made = locked(Bench.TRUE);
        Wire.Tx a = new Wire.Tx().in(made, 0, EMPTY).out(1, Bench.TRUE);
        byte[] keys = Wire.join(Wire.hex("52"), Wire.push(Ec.key(4, false)), Wire.push(Ec.key(5, false)),
                Wire.hex("52af"));
        byte[] left = Wire.join(Wire.hex("00"), keys);
        byte[] first = Wire.push(Ec.signature(4, a.signedHash(0, left, 1), 1));
        byte[] second = Wire.push(Ec.signature(5, a.signedHash(0, left, 2), 2));
        Check.same("both", own(made, a, Wire.join(Wire.hex("00"), first, second, keys)), 0);
        byte[] twice = Wire.join(Wire.hex("00"), first, Wire.hex("75"), first, second, keys);
        Check.same("what is left counts", own(made, a, twice), -14);
        byte[] dropped = Wire.join(first, Wire.hex("75"), second, Wire.hex("75"), Wire.hex("00"), first, second, keys);
        Check.same("so it does", own(made, a, dropped), -14);
        byte[] more = Wire.join(Wire.hex("7575"), left);
        first = Wire.push(Ec.signature(4, a.signedHash(0, more, 1), 1));
        second = Wire.push(Ec.signature(5, a.signedHash(0, more, 2), 2));
        byte[] all = Wire.join(first, second, Wire.hex("7575"), Wire.hex("00"), first, second, keys);
        Check.same("each place of each", own(made, a, all), 0);
    }

    /**
     * Three signatures of three: a good one on top is looked at first; the next one is no DER, and fails if the top
     * one was good. The third one is never looked at, but each push of it is taken out of the code: what was signed
     * tells.
     */
    private static int third(byte[] other, byte[] pushed, boolean isSigned) {
        byte[] keys = Wire.join(Wire.push(Ec.key(1, false)), Wire.push(Ec.key(2, false)), Wire.push(Ec.key(3, false)));
        byte[] left = Wire.join(Wire.hex("75 53"), keys, Wire.hex("53 ae 91"));
        byte[] lock = Wire.join(pushed, left);
        Wire.Tx made = locked(lock);
        Wire.Tx a = new Wire.Tx().in(made, 0, EMPTY).out(1, Bench.TRUE);
        byte[] good = Ec.signature(3, a.signedHash(0, isSigned ? lock : left, 1), 1);
        return own(made, a, Wire.join(Wire.hex("00"), Wire.push(other), Wire.push(Wire.hex("30")), Wire.push(good)));
    }

    private static void stays(String what, byte[] other, byte[] pushed, boolean stays) {
        Check.same(what + ": signed with it", third(other, pushed, true), stays ? -14 : 0);
        Check.same(what + ": signed without it", third(other, pushed, false), stays ? 0 : -14);
    }

    /** By 0 .. 75 if it has fewer than 76 bytes, else by 76; in other forms, or with another byte, it stays. */
    private static void ownPushesOfAllLengths() {
        for (int n : new int[] {0, 1, 2, 74, 75, 76, 77, 255}) {
            byte[] other = Wire.times(n, "77");
            stays("a push of " + n, other, Wire.push(other), false);
            stays("by 77 of " + n, other, Wire.join(Wire.number(77 | n << 8, 3), other), true);
            if (n < 76) {
                stays("by 76 of " + n, other, Wire.join(Wire.number(76 | n << 8, 2), other), true);
            }
            stays("a byte more than " + n, other, Wire.push(Wire.times(n + 1, "77")), true);
            for (int i = 0; i < n; i += Math.max(1, n - 1)) {
                byte[] near = other.clone();
                near[i] ^= 1;
                stays("another byte " + i + " of " + n, other, Wire.push(near), true);
            }
        }
        stays("256 bytes", Wire.times(256, "77"), Wire.push(Wire.times(256, "77")), true);
    }

    /** Each of them signs the same code; type 3 without its output signs a constant, whatever came before. */
    private static void twoInOneScript() {
        byte[] lock = Wire.join(Wire.push(Ec.key(4, false)), Wire.hex("ad"), Wire.push(Ec.key(5, true)),
                Wire.hex("ac"));
        for (int type : new int[] {1, 2, 3, 131}) {
            Wire.Tx made = locked(lock);
            Wire.Tx a = new Wire.Tx().in(made, 1, EMPTY).in(made, 0, EMPTY).out(1, Bench.TRUE);
            byte[] first = Wire.push(Ec.signature(4, a.signedHash(1, lock, 1), 1));
            byte[] second = Wire.push(Ec.signature(5, a.signedHash(1, lock, type), type));
            a.ins.set(1, new Wire.In(made.id(), 0, Wire.join(second, first), Wire.MOST));
            Check.same("1 and " + type, spend(made, a), 0);
            first = Wire.push(Ec.signature(4, a.signedHash(1, lock, type), type));
            second = Wire.push(Ec.signature(5, a.signedHash(1, lock, 1), 1));
            a.ins.set(1, new Wire.In(made.id(), 0, Wire.join(second, first), Wire.MOST));
            Check.same(type + " and 1", spend(made, a), 0);
        }
    }

    private static void twentyKeys() {
        int[] keys = new int[20];
        for (int i = 0; i < 20; i++) {
            keys[i] = i + 1;
        }
        Check.same("the last that is looked at", many(new int[] {1}, 1, keys, "ae"), 0);
        Check.same("the first that is looked at", many(new int[] {20}, 1, keys, "ae"), 0);
        Check.same("both", many(new int[] {1, 20}, 2, keys, "ae"), 0);
        Check.same("none", many(new int[] {21}, 1, keys, "ae91"), 0);
    }

    private static void theLatestMark() {
        byte[] key = Wire.push(Ec.key(4, false));
        byte[] last = Wire.join(key, Wire.hex("ac"));
        byte[] lock = Wire.join(Wire.hex("61ab6161ab61ab"), last);
        Check.same("behind the third", signed(lock, last), 0);
        Check.same("not behind the second", signed(lock, Wire.join(Wire.hex("61"), last)), -14);
        Check.same("not from the beginning", signed(lock, Wire.join(Wire.hex("61616161"), last)), -14);
        lock = Wire.join(Wire.hex("61ab61 00 63 ab 67 68"), last, Wire.hex("ab61"));
        byte[] behind = Wire.join(Wire.hex("61 00 63 67 68"), last, Wire.hex("61"));
        Check.same("one that is not done and one behind are left out", signed(lock, behind), 0);
        lock = Wire.join(Wire.hex("02abab75ab02abab75"), last);
        Check.same("those in pushes stay", signed(lock, Wire.join(Wire.hex("02abab75"), last)), 0);
    }

    /** What the judge says to an output of this lock whose spender signed this code. */
    private static int signed(byte[] lock, byte[] code) {
        Wire.Tx made = locked(lock);
        Wire.Tx a = new Wire.Tx().in(made, 0, EMPTY).out(1, Bench.TRUE);
        return own(made, a, Wire.push(Ec.signature(4, a.signedHash(0, code, 1), 1)));
    }

    /** A mark that was done in the input's script does not count in the output's. */
    private static void marksOfOtherScripts() {
        byte[] lock = Wire.join(Wire.hex("6161"), Wire.push(Ec.key(4, false)), Wire.hex("ac"));
        Wire.Tx made = locked(lock);
        Wire.Tx a = new Wire.Tx().in(made, 0, EMPTY).out(1, Bench.TRUE);
        byte[] signature = Wire.push(Ec.signature(4, a.signedHash(0, lock, 1), 1));
        Check.same("a mark in front", own(made, a, Wire.join(Wire.hex("ab"), signature)), 0);
        Check.same("a mark behind", own(made, a, Wire.join(signature, Wire.hex("61ab"))), 0);
    }

    private static void longCodes() {
        byte[] last = Wire.join(Wire.push(Ec.key(4, false)), Wire.hex("ac"));
        for (int n : new int[] {214, 215, 216, 217, 400}) {
            byte[] lock = Wire.join(Wire.push(new byte[n]), Wire.hex("75"), last);
            Check.same("a code of " + lock.length, signed(lock, lock), 0);
        }
    }

    private static void innerCodes() {
        byte[] inner = Wire.join(Wire.hex("61ab61"), Wire.push(Ec.key(4, true)), Wire.hex("ac"));
        byte[] behind = Arrays.copyOfRange(inner, 2, inner.length);
        byte[] lock = Bench.lockOf(inner);
        for (byte[] code : new byte[][] {behind, inner, lock}) {
            Wire.Tx made = locked(lock);
            Wire.Tx a = new Wire.Tx().in(made, 0, EMPTY).out(1, Bench.TRUE);
            byte[] signature = Wire.push(Ec.signature(4, a.signedHash(0, code, 1), 1));
            Check.same("the code of a pushed script", own(made, a, Wire.join(signature, Wire.push(inner))),
                    code == behind ? 0 : -14);
        }
    }
}
