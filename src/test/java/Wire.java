import java.io.ByteArrayOutputStream;
import java.math.BigInteger;
import java.security.MessageDigest;
import java.security.NoSuchAlgorithmException;
import java.util.ArrayList;
import java.util.Arrays;
import java.util.List;

/** Transactions and blocks as bytes, written apart from the program so that tests can tell them apart. */
final class Wire {
    static final long EASIEST = 0x207FFFFFL;
    static final long MOST = 0xFFFFFFFFL;
    static final byte[] NO_HASH = new byte[32];

    private Wire() {
    }

    /** An input. */
    record In(byte[] id, long index, byte[] script, long sequence) {
    }

    /** An output. */
    record Out(long value, byte[] script) {
    }

    /** A transaction that can be changed. */
    static final class Tx {
        long version = 1;
        long lock;
        final List<In> ins = new ArrayList<>();
        final List<Out> outs = new ArrayList<>();

        Tx in(byte[] id, long index, byte[] script, long sequence) {
            ins.add(new In(id, index, script, sequence));
            return this;
        }

        Tx in(Tx from, long index, byte[] script) {
            return in(from.id(), index, script, MOST);
        }

        Tx out(long value, byte[] script) {
            outs.add(new Out(value, script));
            return this;
        }

        byte[] bytes() {
            ByteArrayOutputStream all = new ByteArrayOutputStream();
            all.writeBytes(number(version, 4));
            all.writeBytes(count(ins.size()));
            for (In in : ins) {
                all.writeBytes(join(in.id, number(in.index, 4), count(in.script.length), in.script));
                all.writeBytes(number(in.sequence, 4));
            }
            all.writeBytes(count(outs.size()));
            for (Out out : outs) {
                all.writeBytes(join(number(out.value, 8), count(out.script.length), out.script));
            }
            all.writeBytes(number(lock, 4));
            return all.toByteArray();
        }

        byte[] id() {
            return twice(bytes());
        }

        /** What is signed for an input. */
        byte[] signedHash(int input, byte[] code, int type) {
            int kind = type % 32;
            if (kind == 3 && input >= outs.size()) {
                byte[] one = new byte[32];
                one[0] = 1;
                return one;
            }
            Tx shown = new Tx();
            shown.version = version;
            shown.lock = lock;
            for (int i = 0; i < ins.size(); i++) {
                In in = ins.get(i);
                if (i == input) {
                    shown.in(in.id, in.index, code, in.sequence);
                } else if (type < 128) {
                    shown.in(in.id, in.index, new byte[0], kind == 2 || kind == 3 ? 0 : in.sequence);
                }
            }
            for (int i = 0; i < outs.size() && kind != 2; i++) {
                if (kind != 3 || i == input) {
                    shown.outs.add(outs.get(i));
                } else if (i < input) {
                    shown.out(-1, new byte[0]);
                }
            }
            return twice(join(shown.bytes(), number(type, 4)));
        }
    }

    static Tx firstTransaction(byte[] script, long value) {
        return new Tx().in(NO_HASH, MOST, script, MOST).out(value, hex("51"));
    }

    /** Number 0, as the document tells it. */
    static byte[] firstBlock() {
        return block(NO_HASH, 1000000, EASIEST, firstTransaction(hex("0000"), 5000000000L));
    }

    /** A block of version 1 with its root and the least nonce that reaches the target. */
    static byte[] block(byte[] parent, long time, long bits, Tx... txs) {
        byte[][] ids = new byte[txs.length][];
        byte[] body = count(txs.length);
        for (int i = 0; i < txs.length; i++) {
            ids[i] = txs[i].id();
            body = join(body, txs[i].bytes());
        }
        return mined(1, parent, root(ids), time, bits, bits, true, body);
    }

    /** The least nonce with which the hash does, or does not, reach the target of these bits; 4095 if none. */
    static byte[] mined(long version, byte[] parent, byte[] root, long time, long bits, long due, boolean reached,
            byte[] body) {
        byte[] head = join(number(version, 4), parent, root, number(time, 4), number(bits, 4), new byte[4]);
        for (int nonce = 0; nonce < 4096; nonce++) {
            System.arraycopy(number(nonce, 4), 0, head, 76, 4);
            if (low(twice(head)).compareTo(target(due)) <= 0 == reached) {
                break;
            }
        }
        return join(head, body);
    }

    static byte[] hashOf(byte[] block) {
        return twice(Arrays.copyOf(block, 80));
    }

    static byte[] root(byte[]... ids) {
        if (ids.length == 0) {
            return NO_HASH;
        }
        byte[][] row = ids;
        while (row.length > 1) {
            byte[][] next = new byte[(row.length + 1) / 2][];
            for (int i = 0; i < next.length; i++) {
                next[i] = twice(join(row[2 * i], row[Math.min(2 * i + 1, row.length - 1)]));
            }
            row = next;
        }
        return row[0];
    }

    static BigInteger target(long bits) {
        BigInteger number = BigInteger.valueOf(bits & 0x7FFFFF);
        return number.shiftLeft(8 * (int) (bits >>> 24) - 24);
    }

    static long bits(BigInteger target) {
        int size = (target.bitLength() + 7) / 8;
        long number = target.shiftRight(8 * size - 24).longValue();
        return number < 0x800000 ? (long) size << 24 | number : size + 1L << 24 | number >> 8;
    }

    static BigInteger low(byte[] lowestFirst) {
        byte[] turned = new byte[lowestFirst.length];
        for (int i = 0; i < turned.length; i++) {
            turned[i] = lowestFirst[turned.length - 1 - i];
        }
        return new BigInteger(1, turned);
    }

    static byte[] number(long value, int size) {
        byte[] out = new byte[size];
        for (int i = 0; i < size; i++) {
            out[i] = (byte) (value >>> 8 * i);
        }
        return out;
    }

    static byte[] count(int count) {
        return count < 253 ? number(count, 1) : join(number(253, 1), number(count, 2));
    }

    static byte[] push(byte[] data) {
        int n = data.length;
        byte[] head = n < 76 ? number(n, 1) : n < 256 ? number(76 | n << 8, 2) : number(77 | n << 8, 3);
        return join(head, data);
    }

    static byte[] join(byte[]... parts) {
        ByteArrayOutputStream all = new ByteArrayOutputStream();
        for (byte[] part : parts) {
            all.writeBytes(part);
        }
        return all.toByteArray();
    }

    static byte[] hex(String text) {
        String digits = text.replace(" ", "");
        byte[] out = new byte[digits.length() / 2];
        for (int i = 0; i < out.length; i++) {
            out[i] = (byte) Integer.parseInt(digits.substring(2 * i, 2 * i + 2), 16);
        }
        return out;
    }

    static String hex(byte[] bytes) {
        StringBuilder out = new StringBuilder();
        for (byte b : bytes) {
            out.append(String.format("%02x", b));
        }
        return out.toString();
    }

    /** So many times the same bytes. */
    static byte[] times(int n, String text) {
        return hex(text.repeat(n));
    }

    static byte[] sha(byte[] bytes) {
        try {
            return MessageDigest.getInstance("SHA-256").digest(bytes);
        } catch (NoSuchAlgorithmException e) {
            throw new AssertionError(e);
        }
    }

    static byte[] twice(byte[] bytes) {
        return sha(sha(bytes));
    }
}
