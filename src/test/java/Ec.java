import java.math.BigInteger;

/** Keys and signatures over secp256k1 with BigInteger, slow and plain. */
final class Ec {
    static final BigInteger P = new BigInteger("FFFFFFFFFFFFFFFFFFFFFFFFFFFFFFFFFFFFFFFFFFFFFFFFFFFFFFFEFFFFFC2F", 16);
    static final BigInteger N = new BigInteger("FFFFFFFFFFFFFFFFFFFFFFFFFFFFFFFEBAAEDCE6AF48A03BBFD25E8CD0364141", 16);
    static final BigInteger[] G = {
        new BigInteger("79BE667EF9DCBBAC55A06295CE870B07029BFCDB2DCE28D959F2815B16F81798", 16),
        new BigInteger("483ADA7726A3C4655DA4FBFC0E1108A8FD17B448A68554199C47D08FFB10D4B8", 16)};

    private Ec() {
    }

    /** Of two points, null being the one without coordinates. */
    static BigInteger[] add(BigInteger[] a, BigInteger[] b) {
        if (a == null || b == null) {
            return a == null ? b : a;
        }
        BigInteger slope;
        if (!a[0].equals(b[0])) {
            slope = b[1].subtract(a[1]).multiply(b[0].subtract(a[0]).modInverse(P));
        } else if (a[1].equals(b[1])) {
            slope = a[0].pow(2).multiply(BigInteger.valueOf(3)).multiply(a[1].shiftLeft(1).modInverse(P));
        } else {
            return null;
        }
        BigInteger x = slope.pow(2).subtract(a[0]).subtract(b[0]).mod(P);
        return new BigInteger[] {x, slope.multiply(a[0].subtract(x)).subtract(a[1]).mod(P)};
    }

    static BigInteger[] times(BigInteger k, BigInteger[] point) {
        BigInteger[] sum = null;
        for (int bit = k.bitLength() - 1; bit >= 0; bit--) {
            sum = add(sum, sum);
            sum = k.testBit(bit) ? add(sum, point) : sum;
        }
        return sum;
    }

    /** A point with this x; null if there is none. */
    static BigInteger[] lift(BigInteger x) {
        BigInteger square = x.pow(3).add(BigInteger.valueOf(7)).mod(P);
        BigInteger y = square.modPow(P.add(BigInteger.ONE).shiftRight(2), P);
        return y.pow(2).mod(P).equals(square) ? new BigInteger[] {x, y} : null;
    }

    /** The key by which the x of this point, as r, and s are a good signature of h. */
    static BigInteger[] keyFor(BigInteger[] point, BigInteger s, BigInteger h) {
        return keyFor(point, point[0].mod(N), s, h);
    }

    /** The key by which r, s and h lead to this point. */
    static BigInteger[] keyFor(BigInteger[] point, BigInteger r, BigInteger s, BigInteger h) {
        BigInteger turned = r.modInverse(N);
        BigInteger ofBase = h.negate().multiply(turned).mod(N);
        return add(times(s.multiply(turned).mod(N), point), times(ofBase, G));
    }

    static byte[] high(BigInteger number) {
        byte[] out = new byte[32];
        for (int i = 0; i < 32; i++) {
            out[31 - i] = number.shiftRight(8 * i).byteValue();
        }
        return out;
    }

    static byte[] key(long n, boolean whole) {
        return bytes(times(BigInteger.valueOf(n), G), whole);
    }

    static byte[] bytes(BigInteger[] point, boolean whole) {
        if (whole) {
            return Wire.join(Wire.hex("04"), high(point[0]), high(point[1]));
        }
        return Wire.join(Wire.hex(point[1].testBit(0) ? "03" : "02"), high(point[0]));
    }

    static byte[] der(BigInteger r, BigInteger s, int type) {
        byte[] a = r.toByteArray();
        byte[] b = s.toByteArray();
        byte[] numbers = Wire.join(new byte[] {2, (byte) a.length}, a, new byte[] {2, (byte) b.length}, b);
        return Wire.join(new byte[] {0x30, (byte) numbers.length}, numbers, new byte[] {(byte) type});
    }

    /** r and s of the signature of h by KEY n. */
    static BigInteger[] numbers(long n, byte[] h) {
        BigInteger key = BigInteger.valueOf(n);
        BigInteger k = new BigInteger(1, Wire.sha(Wire.join(high(key), h))).mod(N);
        BigInteger r = times(k, G)[0].mod(N);
        BigInteger s = new BigInteger(1, h).add(r.multiply(key)).multiply(k.modInverse(N)).mod(N);
        return new BigInteger[] {r, s};
    }

    static byte[] signature(long n, byte[] h, int type) {
        BigInteger[] both = numbers(n, h);
        return der(both[0], both[1], type);
    }
}
