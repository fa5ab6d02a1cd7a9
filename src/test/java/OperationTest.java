import java.util.Set;
import java.util.TreeSet;

/** SCRIPT, one operation after the other: all of 0 .. 255 done, not done, and with too few elements. */
public final class OperationTest {
    /** Elements that each operation needs; those of 121 and 122 are one and the number 0. */
    private static final int[][] NEEDED = {{105, 1}, {107, 1}, {109, 2}, {110, 2}, {111, 3}, {112, 4}, {113, 6},
        {114, 4}, {115, 1}, {117, 1}, {118, 1}, {119, 2}, {120, 2}, {123, 3}, {124, 2}, {125, 2}, {130, 1}, {135, 2},
        {136, 2}, {139, 1}, {140, 1}, {143, 1}, {144, 1}, {145, 1}, {146, 1}, {147, 2}, {148, 2}, {154, 2}, {155, 2},
        {156, 2}, {157, 2}, {158, 2}, {159, 2}, {160, 2}, {161, 2}, {162, 2}, {163, 2}, {164, 2}, {165, 3}, {166, 1},
        {168, 1}, {169, 1}, {170, 1}};
    private static final int[] NOTHING = {97, 116, 171, 176, 178, 179, 180, 181, 182, 183, 184, 185};

    private OperationTest() {
    }

    public static void main(String[] args) {
        pushesOfAllLengths();
        pushesByALength();
        pushesBeyondTheEnd();
        constants();
        enoughElements();
        branchesTakeOne();
        signaturesTakeTheirs();
        numbersOfKeysAndSignatures();
        nothingNeeded();
        othersFailIfDone();
        whatFailsIfNotDone();
        numbersOfFourBytes();
        resultsInTheShortestForm();
        numbersBehindLongerOnes();
        flags();
        movesOfAllLengths();
        whatIsTrue();
        branchesEndInTheirScript();
        Check.end();
    }

    private static void check(String what, byte[] script, byte[] lock, boolean yes) {
        Check.same(what, Bench.spend(script, lock, 0, Wire.MOST), yes ? 0 : -14);
    }

    private static void check(String script, String lock, boolean yes) {
        check(script + " | " + lock, Wire.hex(script), Wire.hex(lock), yes);
    }

    private static String op(int op) {
        return String.format("%02x", op);
    }

    /** A push of these bytes, whatever is the shortest; and a number as a script pushes it. */
    private static byte[] size(int n) {
        byte[] number = n < 128 ? Wire.number(n, 1) : Wire.number(n, 2);
        return n == 0 ? Wire.hex("00") : Wire.push(number);
    }

    private static byte[] filled(int n) {
        byte[] out = new byte[n];
        for (int i = 0; i < n; i++) {
            out[i] = (byte) (i + 1);
        }
        return out;
    }

    private static void pushesOfAllLengths() {
        for (int n = 0; n <= 75; n++) {
            byte[] script = Wire.join(Wire.number(n, 1), filled(n));
            check("push " + n, script, Wire.join(Wire.hex("82"), size(n), Wire.hex("87")), true);
            check("of these bytes", script, Wire.join(Wire.number(76 | n << 8, 2), filled(n), Wire.hex("87")), true);
        }
    }

    private static byte[] push(int op, int bytes, int n) {
        return Wire.join(Wire.number(op, 1), Wire.number(n, bytes), filled(n));
    }

    private static void pushesByALength() {
        int[] ops = {76, 77, 78};
        int[] bytes = {1, 2, 4};
        for (int i = 0; i < 3; i++) {
            for (int n : new int[] {0, 1, 75, 76, 127, 128, 255, 256, 519, 520, 521}) {
                if (n < 256 || i > 0) {
                    byte[] lock = Wire.join(Wire.hex("82"), size(n), Wire.hex("87"));
                    check(ops[i] + " of " + n, push(ops[i], bytes[i], n), lock, n <= 520);
                }
            }
        }
    }

    private static void pushesBeyondTheEnd() {
        for (int n = 1; n <= 75; n++) {
            byte[] cut = Wire.join(Wire.hex("51"), Wire.number(n, 1), new byte[n - 1]);
            check("push " + n + " of a byte less", cut, Wire.hex("51"), false);
            check("in a lock", Wire.hex("51"), cut, false);
        }
        String[] cut = {"4c", "4c01", "4c0211", "4cff11", "4d", "4d01", "4d0100", "4d020011", "4d000111", "4e", "4e01",
            "4e0100", "4e010000", "4e01000000", "4e0200000011", "4e0000000111", "4effffff7f11", "4e0000008011",
            "4effffffff11"};
        for (String script : cut) {
            check("51" + script, "51", false);
            check("51", "51" + script, false);
        }
        for (String script : new String[] {"4c00", "4d0000", "4e00000000"}) {
            check(script, "91", true);
        }
    }

    private static void constants() {
        check("4f", "018187", true);
        for (int op = 81; op <= 96; op++) {
            check(op(op), "01" + op(op - 80) + "87", true);
        }
        check("50", "51", false);
    }

    /** With elements of 1 each; what follows puts a 1 on top. */
    private static void enoughElements() {
        for (int[] one : NEEDED) {
            check("51".repeat(one[1]), op(one[0]) + "51", true);
            check("51".repeat(one[1] - 1), op(one[0]) + "51", false);
        }
        for (String op : new String[] {"79", "7a"}) {
            check("5100", op + "51", true);
            check("00", op + "51", false);
            check("", op + "51", false);
            check("515151", op + "51", true);
            check("5151", op + "51", false);
        }
        check("51", "6b6c", true);
        check("51", "6c51", false);
        check("51", "6b6c6c51", false);
        Check.same("177 of one", Bench.spend(Wire.hex("00"), Wire.hex("b151"), 0, 0), 0);
        Check.same("177 of none", Bench.spend(Wire.hex(""), Wire.hex("b151"), 0, 0), -14);
    }

    private static void branchesTakeOne() {
        for (String op : new String[] {"63", "64"}) {
            check("51", op + "6851", true);
            check("", op + "6851", false);
            check("00", "63" + op + "686851", true);
        }
        for (String op : new String[] {"67", "68"}) {
            check("51", op + "51", false);
        }
    }

    private static void signaturesTakeTheirs() {
        check("0000", "ac51", true);
        check("00", "ac51", false);
        check("00", "ad51", false);
        check("", "ad51", false);
        for (String op : new String[] {"ae", "af"}) {
            check("000000", op + "51", true);
            check("0000", op + "51", false);
            check("00", op + "51", false);
            check("", op + "51", false);
            check("00 00 51 51", op + "51", true);
            check("00 51 51", op + "51", false);
            check("00 00 51 51 52", op + "51", true);
            check("00 51 51 52", op + "51", false);
        }
        check("00 00 51 51 51", "ae91", true);
        check("00 51 51 51", "ae91", false);
        check("51 00 00", "ac 7452 87", true);
        check("51 00 00 00", "ae 7452 87", true);
        check("51 00 00 00", "af 7451 87", true);
        check("51 00 00 51 51 51", "ae 7452 87", true);
    }

    /** Numbers of 174 that are out of range fail; they are not just false. */
    private static void numbersOfKeysAndSignatures() {
        String more = "00".repeat(30);
        check(more, "00 51 00 ae 91", false);
        check(more, "00 4f 00 ae 91", false);
        check(more, "51 52 51 51 ae 91", false);
        check(more, "00 00 4f ae 91", false);
        check(more, "00 01 15 ae 91", false);
        check(more, "51 01 14 ae 91", false);
        check(more + "51" + "00".repeat(20), "01 14 ae 91", true);
        check("00 00" + "51" + "51".repeat(2), "52 ae 91", true);
    }

    private static void nothingNeeded() {
        for (int op : NOTHING) {
            check("", op(op) + "51", true);
        }
    }

    private static Set<Integer> known() {
        Set<Integer> known = new TreeSet<>();
        for (int op = 0; op <= 96; op++) {
            known.add(op);
        }
        known.remove(80);
        for (int[] one : NEEDED) {
            known.add(one[0]);
        }
        for (int op : NOTHING) {
            known.add(op);
        }
        for (int op : new int[] {99, 100, 103, 104, 108, 121, 122, 172, 173, 174, 175, 177}) {
            known.add(op);
        }
        return known;
    }

    private static void othersFailIfDone() {
        Set<Integer> known = known();
        for (int op = 0; op < 256; op++) {
            if (!known.contains(op)) {
                check("51".repeat(10), op(op) + "51", false);
                check("51".repeat(10), "51 63" + op(op) + "6851", false);
            }
        }
    }

    private static void whatFailsIfNotDone() {
        Set<Integer> failing = Set.of(101, 102, 126, 127, 128, 129, 131, 132, 133, 134, 141, 142, 149, 150, 151, 152,
                153);
        for (int op = 76; op < 256; op++) {
            String behind = op == 76 ? "00" : op == 77 ? "0000" : op == 78 ? "00000000" : "";
            boolean opens = op == 99 || op == 100;
            if (op != 104) {
                String lock = "63" + op(op) + behind + (opens ? "68" : "") + "6851";
                check("00", lock, !failing.contains(op));
            }
        }
        byte[] lock = Wire.join(Wire.hex("63"), push(77, 2, 520), Wire.hex("6851"));
        check("a push of 520 that is not done", Wire.hex("00"), lock, true);
        lock = Wire.join(Wire.hex("63"), push(77, 2, 521), Wire.hex("6851"));
        check("a push of 521 that is not done", Wire.hex("00"), lock, false);
    }

    /** Every operand of every operation on numbers: four bytes do, five fail, whatever their value. */
    private static void numbersOfFourBytes() {
        for (int[] one : NEEDED) {
            boolean onNumbers = one[0] >= 139 && one[0] <= 165;
            for (int place = 0; place < one[1] && onNumbers; place++) {
                String before = "51".repeat(place);
                String behind = "51".repeat(one[1] - 1 - place);
                check(before + "0401000000" + behind, op(one[0]) + "51", true);
                check(before + "050100000000" + behind, op(one[0]) + "51", false);
            }
        }
        for (String op : new String[] {"79", "7a"}) {
            check("51 04 00000000", op, true);
            check("51 04 00000080", op, true);
            check("51 05 0000000000", op + "51", false);
        }
        for (String lock : new String[] {"00 04 00000000 ae", "04 00000000 00 ae"}) {
            check("00", lock, true);
        }
        for (String lock : new String[] {"00 05 0000000000 ae 51", "05 0000000000 00 ae 51"}) {
            check("00", lock, false);
        }
    }

    private static void resultsInTheShortestForm() {
        String[][] plusOne = {{"4f", "00"}, {"00", "0101"}, {"017f", "028000"}, {"02ff00", "020001"},
            {"02ff7f", "03008000"}, {"03ffff00", "03000001"}, {"03ffff7f", "0400008000"}, {"04ffffff00", "0400000001"},
            {"04ffffff7f", "050000008000"}, {"0182", "0181"}, {"028080", "01ff"}, {"028180", "028080"},
            {"04000000ff", "04ffffff fe"}, {"04ffffffff", "04feffffff"}, {"0181", "00"}, {"0180", "0101"},
            {"020000", "0101"}, {"0400000080", "0101"}, {"0305 0000", "0106"}};
        for (String[] one : plusOne) {
            check(one[0], "8b" + one[1] + "87", true);
        }
        String[][] lessOne = {{"00", "0181"}, {"51", "00"}, {"01ff", "028080"}, {"028080", "028180"},
            {"02ffff", "03008080"}, {"04ffffffff", "050000008080"}, {"028000", "017f"}};
        for (String[] one : lessOne) {
            check(one[0], "8c" + one[1] + "87", true);
        }
        check("0180", "8f0087", true);
        check("0180", "900087", true);
        check("04ffffffff", "8f04ffffff7f87", true);
        check("04ffffffff", "9004ffffff7f87", true);
        check("04ffffff7f 04ffffff7f", "9305feffffff0087", true);
        check("04ffffffff 04ffffff7f", "9405feffffff8087", true);
        check("020500 52", "a4 55 87", true);
        check("03050000 56", "a3 55 87", true);
        check("0180 51", "a3 00 87", true);
        check("51 51", "9e 00 87", true);
    }

    private static void numbersBehindLongerOnes() {
        check("04ffffff7f 8c 75 017f", "8b 028000 87", true);
        check("04ffffffff 8b 75 01ff", "8c 028080 87", true);
        check("020101 8b 75 52", "8b 53 87", true);
    }

    /** What tells yes or no is the byte 1, or empty. */
    private static void flags() {
        String[][] yes = {{"5151", "87"}, {"00", "91"}, {"52", "92"}, {"5253", "9a"}, {"5200", "9b"}, {"5252", "9c"},
            {"5253", "9e"}, {"5152", "9f"}, {"5251", "a0"}, {"5152", "a1"}, {"5251", "a2"}, {"525153", "a5"},
            {"000000", "ae"}};
        String[][] no = {{"5152", "87"}, {"52", "91"}, {"00", "92"}, {"5200", "9a"}, {"0000", "9b"}, {"5253", "9c"},
            {"5252", "9e"}, {"5252", "9f"}, {"5252", "a0"}, {"5352", "a1"}, {"5253", "a2"}, {"535153", "a5"},
            {"0000", "ac"}, {"00005151", "51ae"}};
        for (String[] one : yes) {
            check(one[0], one[1] + "0101 88 74 00 87", true);
        }
        for (String[] one : no) {
            check(one[0], one[1] + "00 88 74 00 87", true);
        }
    }

    /** Element k has k bytes; the result from the bottom on. */
    private static void movesOfAllLengths() {
        moved("", "6d", "1", 3);
        moved("", "6e", "1212", 2);
        moved("", "6f", "123123", 3);
        moved("", "70", "123412", 4);
        moved("", "71", "345612", 6);
        moved("", "72", "3412", 4);
        moved("", "73", "1233", 3);
        moved("", "75", "12", 3);
        moved("", "76", "1233", 3);
        moved("", "77", "13", 3);
        moved("", "78", "12343", 4);
        moved("", "7b", "1342", 4);
        moved("", "7c", "1243", 4);
        moved("", "7d", "12434", 4);
        moved("00", "79", "12344", 4);
        moved("53", "79", "12341", 4);
        moved("00", "7a", "1234", 4);
        moved("51", "7a", "1243", 4);
        moved("53", "7a", "2341", 4);
        moved("", "6b6b6c6c", "1234", 4);
        moved("", "6b7c6c", "213", 3);
        moved("", "6b6b75 6c6c", "134", 4);
    }

    private static byte[] element(int k) {
        return Wire.push(Wire.times(k, "a" + k));
    }

    private static void moved(String number, String op, String want, int elements) {
        byte[] script = Bench.EMPTY;
        for (int k = 1; k <= elements; k++) {
            script = Wire.join(script, element(k));
        }
        byte[] lock = Wire.hex(number + op);
        for (int i = want.length() - 1; i >= 0; i--) {
            lock = Wire.join(lock, element(want.charAt(i) - '0'), Wire.hex("88"));
        }
        check(number + " " + op, script, Wire.join(lock, Wire.hex("740087")), true);
    }

    /** For 99, 100, 105, 115 and at the end: any byte not 0, but for 128 as the last one. */
    private static void whatIsTrue() {
        String[] yes = {"0101", "0181", "01ff", "028000", "020100", "020180", "020081", "020001", "03008000",
            "03800000", "04000000 01", "4f", "60"};
        String[] no = {"00", "0100", "0180", "020000", "020080", "03000080", "4c00", "0400000080", "0400000000"};
        for (int i = 0; i < yes.length + no.length; i++) {
            boolean is = i < yes.length;
            String script = is ? yes[i] : no[i - yes.length];
            check(script, "", is);
            check("51" + script, "63 61 67 69 00 68", is);
            check("51" + script, "64 69 00 68", is);
            check("51" + script, "69", is);
            check(script, "73 74 52 87", is);
        }
        byte[] longest = new byte[520];
        longest[519] = (byte) 128;
        check("520 bytes, 128 the last", Wire.push(longest), Bench.EMPTY, false);
        longest[0] = 1;
        check("520 bytes, 1 the first", Wire.push(longest), Bench.EMPTY, true);
    }

    private static void branchesEndInTheirScript() {
        check("5163", "6851", false);
        check("516367", "6851", false);
        check("51", "5163", false);
        check("51", "516367", false);
        check("51", "51636368", false);
        check("", "516363686851", false);
        check("51", "5151636368" + "6851", true);
        byte[] deep = Wire.join(Wire.times(100, "51"), Wire.times(100, "63"), Wire.times(100, "68"), Wire.hex("51"));
        check("100 branches", Wire.hex("51"), deep, true);
        byte[] closed = Wire.join(Wire.hex("00"), Wire.times(100, "63"), Wire.times(100, "68"), Wire.hex("61"));
        check("100 that are not done", Wire.hex("51"), closed, true);
        byte[] open = Wire.join(Wire.hex("00"), Wire.times(201, "63"));
        check("201 that are open", Wire.hex("51"), open, false);
    }
}
