import java.util.Arrays;

/** Promise 12 sign. */
public final class SignTest {
    private static final byte[] EMPTY = new byte[0];
    private static final int[] TYPES = {0, 1, 2, 3, 4, 31, 32, 33, 34, 35, 65, 128, 129, 130, 131, 162, 163, 255};

    /** Where the script of a draft's first input begins in the block. */
    private static final int SCRIPT_AT = 81 + 5 + 36 + 1;

    private SignTest() {
    }

    public static void main(String[] args) {
        for (int type : TYPES) {
            signsAsTold(type);
        }
        marksAreNotSigned();
        codesOfAllLengths();
        asItIsNow();
        oneBehindAnother();
        numbersOfFewerBytes();
        upTo500Bytes();
        signRefusesInOrder();
        Check.end();
    }

    /** A draft of three inputs and two outputs, as it is in the judge. */
    private static Wire.Tx draft(Bench x) {
        x.judge.open(0, 1000600);
        x.judge.tx(7, 9);
        Wire.Tx a = new Wire.Tx();
        a.version = 7;
        a.lock = 9;
        byte[] id = Wire.firstTransaction(Wire.hex("0000"), 5000000000L).id();
        for (int i = 0; i < 3; i++) {
            x.tape("5" + i);
            x.judge.input(0, 0, i, 100 + i);
            a.in(id, i, Wire.hex("5" + i), 100 + i);
        }
        for (int i = 0; i < 2; i++) {
            x.tape("a" + i + "b" + i);
            x.judge.output(1000 + i);
            a.out(1000 + i, Wire.hex("a" + i + "b" + i));
        }
        return a;
    }

    private static void signsAsTold(int type) {
        for (int i = 0; i < 3; i++) {
            Bench x = new Bench();
            Wire.Tx a = draft(x);
            byte[] code = Wire.hex("76a9");
            byte[] want = Wire.push(Ec.signature(5 + i, a.signedHash(i, code, type), type));
            x.tape(code);
            Check.same("sign", x.judge.sign(i, 5 + i, type), 1 + want.length);
            Check.same("the tape is empty then", x.judge.tell(0), 0);
            Wire.In old = a.ins.get(i);
            a.ins.set(i, new Wire.In(old.id(), old.index(), Wire.join(old.script(), want), old.sequence()));
            x.judge.seal(0);
            byte[] drawn = x.tape();
            Check.same("input " + i + " type " + type, Arrays.copyOfRange(drawn, 81, drawn.length), a.bytes());
        }
    }

    private static void marksAreNotSigned() {
        // The last operation goes beyond the end: from it on all stays, the mark there too.
        String[][] codes = {{"ab 02abab ab ac 4c01ab ab 05abab", "02abab ac 4c01ab 05abab"}, {"ab", ""},
            {"abababab", ""}, {"01ab", "01ab"}, {"4cab", "4cab"}, {"ab4dabab", "4dabab"}, {"4d0100abab", "4d0100ab"},
            {"4e01000000ab ab 4e01000000", "4e01000000ab 4e01000000"}, {"00 51 00 ab 00", "00 51 00 00"}};
        for (String[] code : codes) {
            Bench x = new Bench();
            Wire.Tx a = draft(x);
            byte[] want = Wire.push(Ec.signature(0x7fffffff, a.signedHash(0, Wire.hex(code[1]), 1), 1));
            x.tape(code[0]);
            x.judge.sign(0, 0x7fffffff, 1);
            x.judge.seal(0);
            int at = SCRIPT_AT + 1;
            Check.same("code " + code[0], Arrays.copyOfRange(x.tape(), at, at + want.length), want);
        }
    }

    /** A count of 253 bytes and more has three bytes, in what is signed too. */
    private static void codesOfAllLengths() {
        for (int n : new int[] {0, 1, 252, 253, 255, 256, 600, 1600}) {
            Bench x = new Bench();
            Wire.Tx a = draft(x);
            byte[] code = Wire.times(n, "61");
            byte[] want = Wire.push(Ec.signature(6, a.signedHash(1, code, 1), 1));
            x.tape(code);
            Check.same("a code of " + n, x.judge.sign(1, 6, 1), 1 + want.length);
            Check.same("the tape is empty then", x.judge.tell(0), 0);
            x.judge.seal(0);
            int at = SCRIPT_AT + 1 + 4 + 36 + 1 + 1;
            Check.same("signed", Arrays.copyOfRange(x.tape(), at, at + want.length), want);
        }
    }

    /** What comes to the transaction later is not signed; nor are scripts of inputs, the own one neither. */
    private static void asItIsNow() {
        Bench x = new Bench();
        x.judge.tx(1, 0);
        x.judge.input(0, 0, 5, 6);
        Wire.Tx a = new Wire.Tx().in(Bench.COIN_0, 5, EMPTY, 6);
        byte[] none = Wire.push(Ec.signature(8, a.signedHash(0, EMPTY, 1), 1));
        Check.same("without outputs", x.judge.sign(0, 8, 1), none.length);
        x.judge.output(9);
        a.out(9, EMPTY);
        byte[] one = Wire.push(Ec.signature(8, a.signedHash(0, EMPTY, 1), 1));
        Check.same("with one", x.judge.sign(0, 8, 1), none.length + one.length);
        a.ins.set(0, new Wire.In(Bench.COIN_0, 5, Wire.join(none, one), 6));
        x.judge.seal(0);
        byte[] drawn = x.tape();
        Check.same("both", Arrays.copyOfRange(drawn, 81, drawn.length), a.bytes());
    }

    /** Signatures and keys that were made before leave no trace. */
    private static void oneBehindAnother() {
        Bench x = new Bench();
        Wire.Tx a = draft(x);
        x.judge.key(0x7fffffff, 1);
        x.judge.end(0);
        for (int i = 0; i < 3; i++) {
            byte[] code = Wire.times(20 - 5 * i, "5" + i);
            int type = i == 1 ? 1 : 3;
            byte[] want = Wire.push(Ec.signature(1 + i, a.signedHash(i, code, type), type));
            x.tape(code);
            Check.same("sign", x.judge.sign(i, 1 + i, type), 1 + want.length);
            Wire.In old = a.ins.get(i);
            a.ins.set(i, new Wire.In(old.id(), old.index(), Wire.join(old.script(), want), old.sequence()));
        }
        x.judge.seal(0);
        byte[] drawn = x.tape();
        Check.same("all three", Arrays.copyOfRange(drawn, 81, drawn.length), a.bytes());
    }

    /** Codes of which r, or s, has 31 bytes, with its first bit set (a 0 stands in front then) and without. */
    private static void numbersOfFewerBytes() {
        int[] codes = {602, 451, 210, 81};
        int[] bits = {248, 247, 248, 247};
        for (int i = 0; i < codes.length; i++) {
            Bench x = new Bench();
            Wire.Tx a = draft(x);
            byte[] code = Wire.number(codes[i], 3);
            byte[] h = a.signedHash(0, code, 1);
            Check.same("bits of " + codes[i], Ec.numbers(4, h)[i / 2].bitLength(), bits[i]);
            byte[] want = Wire.push(Ec.signature(4, h, 1));
            x.tape(code);
            x.judge.sign(0, 4, 1);
            x.judge.seal(0);
            byte[] got = Arrays.copyOfRange(x.tape(), SCRIPT_AT + 1, SCRIPT_AT + 1 + want.length);
            Check.same("a number of " + bits[i] + " bits", got, want);
        }
    }

    private static void upTo500Bytes() {
        Bench x = new Bench();
        x.judge.tx(1, 0);
        x.tape(new byte[500]);
        x.judge.input(0, 0, 0, 0);
        Wire.Tx a = new Wire.Tx().in(Bench.COIN_0, 0, EMPTY, 0);
        byte[] want = Wire.push(Ec.signature(1, a.signedHash(0, EMPTY, 1), 1));
        Check.same("500 bytes before it", x.judge.sign(0, 1, 1), 500 + want.length);
        Check.noRoom("more than 500", () -> x.judge.sign(0, 1, 1));
        x.tape(new byte[20]);
        Check.same("a push may follow", x.judge.push(0), 521 + want.length);
    }

    private static void signRefusesInOrder() {
        Bench x = new Bench();
        Check.tooEarly("no transaction", () -> x.judge.sign(0, 1, 1));
        Check.tooEarly("first of all", () -> x.judge.sign(-1, 1, 1));
        x.judge.tx(1, 0);
        Check.outOfRange("no input", () -> x.judge.sign(0, 1, 1));
        x.tape(new byte[501]);
        x.judge.input(-1, 0, 0, 0);
        x.tape("aa");
        Check.outOfRange("i -1", () -> x.judge.sign(-1, 1, 1));
        Check.outOfRange("i 1", () -> x.judge.sign(1, 1, 1));
        Check.outOfRange("n 0", () -> x.judge.sign(0, 0, 1));
        Check.outOfRange("type -1", () -> x.judge.sign(0, 1, -1));
        Check.outOfRange("type 256", () -> x.judge.sign(0, 1, 256));
        Check.noRoom("501 bytes", () -> x.judge.sign(0, 1, 1));
        Check.same("the tape stays", x.tape(), Wire.hex("aa"));
        x.judge.end(0);
        x.tape(new byte[500]);
        Check.same("input", x.judge.input(-1, 0, 0, 0), 2);
        x.tape(new byte[1600]);
        Check.same("500 bytes, and a long code", x.judge.sign(1, 1, 1) > 560 ? 1 : 0, 1);
    }
}
