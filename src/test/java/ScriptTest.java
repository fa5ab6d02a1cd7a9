/** UNLOCK and SCRIPT: what promise 14 refuses with reason 14. */
public final class ScriptTest {
    /** An input's script, an output's, and whether the one unlocks the other. */
    private static final String[][] CASES = {
        // pushes, what is TRUE, and the end
        {"", "51", "yes"}, {"", "", "no"}, {"51", "", "yes"}, {"00", "", "no"}, {"", "00", "no"}, {"0180", "", "no"},
        {"0100", "", "no"}, {"020080", "", "no"}, {"028000", "", "yes"}, {"020081", "", "yes"}, {"0101", "", "yes"},
        {"4f", "018187", "yes"}, {"51", "010187", "yes"}, {"60", "011087", "yes"}, {"00", "018087", "no"},
        {"4c0155", "015587", "yes"}, {"4d010055", "015587", "yes"}, {"4e0100000055", "015587", "yes"},
        {"4c00", "0087", "yes"}, {"4c", "51", "no"}, {"4c0255", "51", "no"}, {"4d01", "51", "no"},
        {"4d020055", "51", "no"}, {"4e010000", "51", "no"}, {"4effffffff55", "51", "no"}, {"0255", "51", "no"},
        {"51", "51 02 51", "no"}, {"50", "51", "no"}, {"", "51 6a", "no"}, {"51 00 63 50 68", "", "yes"},
        {"51 00 63 6a 68", "", "yes"}, {"51 00 63 ba ff 68", "", "yes"}, {"51 ba", "", "no"}, {"51 ff", "", "no"},
        {"51 62", "", "no"}, {"51", "63 62 68 51", "no"}, {"00", "63 62 68 51", "yes"}, {"51 89", "", "no"},
        {"51 8a", "", "no"}, {"51 a7", "", "no"}, {"51 00 63 a7 68", "", "yes"},
        // nothing
        {"51", "61", "yes"}, {"51", "b0", "yes"}, {"51", "b2b3b4b5b6b7b8b9", "yes"}, {"51", "ba", "no"},
        // if, else
        {"51", "63 52 67 53 68 5287", "yes"}, {"00", "63 52 67 53 68 5387", "yes"},
        {"51", "64 52 67 53 68 5387", "yes"}, {"00", "64 52 67 53 68 5287", "yes"}, {"51", "63 51", "no"},
        {"51", "63", "no"}, {"", "63 51 68 51", "no"}, {"51", "67", "no"}, {"51", "68", "no"},
        {"51", "63 68 68 51", "no"}, {"51", "63 68 67 51", "no"}, {"51", "63 52 67 53 67 54 68 5487 69 5287", "yes"},
        {"00", "63 52 67 53 67 54 68 5387", "yes"}, {"00", "63 63 67 52 68 67 51 68", "yes"},
        {"0180", "63 67 51 68", "yes"}, {"00", "63 99 68 51", "no"}, {"00", "63 65 68 51", "no"},
        {"00", "63 66 68 51", "no"}, {"51", "63 67 65 68 51", "no"}, {"51 51", "63 63 52 68 68 5287", "yes"},
        {"00", "63 64 68 68 51", "yes"}, {"", "63 51", "no"}, {"", "64 51", "no"}, {"51", "63 52 67 53 68 5387", "no"},
        {"51", "63 51 67 51 68 6a", "no"}, {"00", "63 51 67 51 68 6a", "no"}, {"51", "63 67 68 51 6a", "no"},
        {"51", "63 67 67 68 51 6a", "no"}, {"00", "63 67 67 68 51 6a", "no"}, {"00", "63 63 67 68 68 51 6a", "no"},
        {"51", "63 51 67 6a 67 52 68 5287", "yes"}, {"51", "63 51 67 51 67 6a 68", "no"},
        {"00", "63 6a 67 51 67 6a 68", "yes"}, {"00", "63 51 67 6a 67 51 68", "no"},
        // those that fail also if not done
        {"00", "63 7e 68 51", "no"}, {"00", "63 7f 68 51", "no"}, {"00", "63 80 68 51", "no"},
        {"00", "63 81 68 51", "no"}, {"00", "63 82 68 51", "yes"}, {"00", "63 83 68 51", "no"},
        {"00", "63 86 68 51", "no"}, {"00", "63 8d 68 51", "no"}, {"00", "63 8e 68 51", "no"},
        {"00", "63 95 68 51", "no"}, {"00", "63 97 68 51", "no"}, {"00", "63 98 68 51", "no"},
        // verify, the other stack
        {"51", "69 51", "yes"}, {"00", "69 51", "no"}, {"", "69 51", "no"}, {"51", "69", "no"},
        {"52", "6b 51 69 6c 5287", "yes"}, {"51", "6c", "no"}, {"", "6b 51", "no"}, {"51 6b", "6c", "no"},
        {"51 52 6b", "51 87", "yes"},
        // moves
        {"51 52 53", "6d 5187", "yes"}, {"51", "6d 51", "no"}, {"51 52", "6d 51", "yes"},
        {"51 52", "6e 7454 87 69 5287 69 5187 69 5287", "yes"}, {"51", "6e 51", "no"},
        {"51 52 53", "6f 7456 87 69 5387 69 5287 69 5187", "yes"}, {"51 52", "6f 51", "no"},
        {"51 52 53 54", "70 5287 69 5187 69 5487", "yes"}, {"51 52 53", "70 51", "no"},
        {"51 52 53 54 55 56", "71 5287 69 5187 69 5687 69 5587 69 7452 87", "yes"}, {"51 52 53 54 55", "71 51", "no"},
        {"51 52 53 54", "72 5287 69 5187 69 5487 69 5387", "yes"}, {"51 52 53", "72 51", "no"},
        {"52", "73 7452 87", "yes"}, {"00", "73 7451 87", "yes"}, {"0180", "73 7451 87", "yes"}, {"", "73 51", "no"},
        {"", "74 0087", "yes"}, {"51 51 51", "74 5387", "yes"}, {"51 52", "75 5187", "yes"}, {"", "75 51", "no"},
        {"52", "76 5287 69 5287", "yes"}, {"", "76 51", "no"}, {"51 52", "77 5287 69 7400 87", "yes"},
        {"51", "77", "no"}, {"51 52", "78 5187 69 5287", "yes"}, {"51", "78", "no"},
        {"51 52 53 00", "79 5387 69 7453 87", "yes"}, {"51 00", "79 5187", "yes"}, {"51 00", "7a 5187", "yes"},
        {"51", "75 51", "yes"}, {"51 52 53 52", "79 5187", "yes"}, {"51 52 53 53", "79 51", "no"},
        {"51 52 4f", "79 51", "no"}, {"51", "79 51", "no"}, {"00", "79 51", "no"},
        {"51 52 53 52", "7a 5187 69 5387 69 5287 69 7400 87", "yes"}, {"51 52 53 00", "7a 5387", "yes"},
        {"51 52 53 53", "7a 51", "no"}, {"51 52 4f", "7a 51", "no"}, {"51 05 0000000000", "79 51", "no"},
        {"51 52 53", "7b 5187 69 5387 69 5287", "yes"}, {"51 52", "7b 51", "no"}, {"51 52", "7c 5187 69 5287", "yes"},
        {"51", "7c", "no"}, {"51 52", "7d 5287 69 5187 69 5287", "yes"}, {"51", "7d", "no"},
        // size, equal
        {"00", "82 0087", "yes"}, {"03 010203", "82 5387 69 03 010203 87", "yes"}, {"", "82", "no"},
        {"51 51", "87", "yes"}, {"51 020100", "87", "no"}, {"51 020100", "87 91", "yes"}, {"51", "87", "no"},
        {"51 51", "88 51", "yes"}, {"51 52", "88 51", "no"}, {"51 51", "88", "no"}, {"51", "88 51", "no"},
        // numbers
        {"55", "8b 5687", "yes"}, {"4f", "8b 0087", "yes"}, {"55", "8c 5487", "yes"}, {"00", "8c 4f87", "yes"},
        {"55", "8f 018587", "yes"}, {"018585", "8f 51", "no"}, {"0185", "8f 5587", "yes"}, {"00", "8f 0087", "yes"},
        {"0180", "8f 0087", "yes"}, {"0185", "90 5587", "yes"}, {"55", "90 5587", "yes"}, {"00", "91", "yes"},
        {"55", "91", "no"}, {"0180", "91", "yes"}, {"55", "92 5187", "yes"}, {"00", "92", "no"},
        {"0180", "92 0087", "yes"}, {"", "8b 51", "no"}, {"52 53", "93 5587", "yes"}, {"52 53", "94 4f87", "yes"},
        {"53 52", "94 5187", "yes"}, {"52", "93 51", "no"}, {"04 ffffff7f 51", "93 05 0000008000 87", "yes"},
        {"04 ffffffff 51", "94 05 0000008080 87", "yes"}, {"04 ffffff7f 51", "93 8c 51", "no"},
        {"05 0100000000", "8b 51", "no"}, {"51 05 0100000000", "93 51", "no"}, {"05 0100000000 51", "93 51", "no"},
        {"04 01000000", "8b 5287", "yes"}, {"04 01000080", "8b 0087", "yes"}, {"02 ff00", "8b 02 0001 87", "yes"},
        {"01 7f", "8b 02 8000 87", "yes"}, {"01 ff", "8c 02 8080 87", "yes"}, {"51 52", "9a", "yes"},
        {"51 00", "9a 91", "yes"}, {"00 00", "9b 91", "yes"}, {"00 51", "9b", "yes"}, {"51 020100", "9c", "yes"},
        {"51 52", "9c 91", "yes"}, {"51 020100", "9d 51", "yes"}, {"51 52", "9d 51", "no"}, {"51 51", "9d", "no"},
        {"51 52", "9e", "yes"}, {"51 51", "9e 91", "yes"}, {"51 52", "9f", "yes"}, {"51 51", "9f 91", "yes"},
        {"52 51", "a0", "yes"}, {"51 51", "a0 91", "yes"}, {"51 51", "a1", "yes"}, {"52 51", "a1 91", "yes"},
        {"51 51", "a2", "yes"}, {"51 52", "a2 91", "yes"}, {"4f 51", "a3 4f87", "yes"}, {"4f 51", "a4 5187", "yes"},
        {"51", "a3", "no"}, {"52 51 53", "a5", "yes"}, {"51 51 53", "a5", "yes"}, {"53 51 53", "a5 91", "yes"},
        {"00 51 53", "a5 91", "yes"}, {"51 53", "a5", "no"}, {"52 51 05 0300000000", "a5", "no"},
        {"53 51 53", "a5 00 87", "yes"},
        // hashes
        {"03 616263", "a6 14 8eb208f7e05d987a9b044a8e98c6b087f15a0bfc 87", "yes"},
        {"03 616263", "a8 20 ba7816bf8f01cfea414140de5dae2223b00361a396177a9cb410ff61f20015ad 87", "yes"},
        {"03 616263", "a9 14 bb1be98c142444d7a56aa3981c3942a978e4dc33 88 51", "yes"},
        {"03 616263", "aa 20 4f8b42c22dd3729b519ba6f68d2da7cc5b2d606d05daed5ad5128cc03e6c6358 87", "yes"},
        {"", "a6", "no"}, {"", "a8", "no"}, {"", "aa", "no"}, {"51", "ab", "yes"},
        // signatures without any
        {"00", "00 00 ae", "yes"}, {"00", "00 00 af 51", "yes"}, {"00 00", "ae 51", "no"}, {"00", "00 51 ae", "no"},
        {"00 00", "51 51 ae 91", "no"}, {"00 00 00 51 51", "51 ae 91", "yes"}, {"00 00", "01 15 ae", "no"},
        {"00 00", "4f ae", "no"}, {"00 4f", "00 ae", "no"}, {"00 51", "00 ae", "no"},
        {"00 00", "05 0000000000 ae", "no"},
        // the hash of a script
        {"01 51", "a914 da1745e9b549bd0bfa1a569971c77eba30cd5a4b 87", "yes"},
        {"51", "a914 da1745e9b549bd0bfa1a569971c77eba30cd5a4b 87", "no"},
        {"61 01 51", "a914 da1745e9b549bd0bfa1a569971c77eba30cd5a4b 87", "no"},
        {"51 76 75 01 51", "a914 da1745e9b549bd0bfa1a569971c77eba30cd5a4b 87", "no"},
        {"60 01 51", "a914 da1745e9b549bd0bfa1a569971c77eba30cd5a4b 87", "yes"},
        {"", "a914 da1745e9b549bd0bfa1a569971c77eba30cd5a4b 87", "no"},
        {"00", "a914 b472a266d0bd89c13706a4132ccfb16f7c3b9fcb 87", "no"},
        {"51 00", "a914 b472a266d0bd89c13706a4132ccfb16f7c3b9fcb 87", "yes"},
        {"61 51 00", "a914 b472a266d0bd89c13706a4132ccfb16f7c3b9fcb 61 87", "yes"},
        {"61 00", "a914 b472a266d0bd89c13706a4132ccfb16f7c3b9fcb 61 87", "yes"},
    };

    private ScriptTest() {
    }

    public static void main(String[] args) {
        for (String[] given : CASES) {
            check(given[0] + " | " + given[1], Wire.hex(given[0]), Wire.hex(given[1]), given[2].equals("yes"));
        }
        limits();
        asManyBytesAsOperationsMake();
        oneBehindAnother();
        innerScripts();
        locks();
        Check.end();
    }

    private static void check(String what, byte[] script, byte[] lock, boolean yes) {
        Check.same(what, Bench.spend(script, lock, 0, Wire.MOST), yes ? 0 : -14);
    }

    private static void limits() {
        check("1000 elements", Wire.times(1000, "51"), Wire.hex("61"), true);
        check("1001 elements", Wire.times(1001, "51"), Wire.hex("61"), false);
        check("1001 for a while", Wire.join(Wire.times(1001, "51"), Wire.hex("75")), Wire.hex("61"), false);
        check("1000 with others", Wire.times(999, "51"), Wire.hex("6b6b 51 51"), false);
        check("999 with others", Wire.times(999, "51"), Wire.hex("6b6b 51"), true);
        check("three at once", Wire.times(997, "51"), Wire.hex("6f"), true);
        check("three too many", Wire.times(998, "51"), Wire.hex("6f 6d75"), false);
        check("520 bytes", Wire.push(new byte[520]), Wire.hex("51"), true);
        check("521 bytes", Wire.push(new byte[521]), Wire.hex("51"), false);
        check("521 bytes that are not done", Wire.join(Wire.hex("0063"), Wire.push(new byte[521]), Wire.hex("68")),
                Wire.hex("51"), false);
        check("201 operations", Wire.hex("51"), Wire.times(201, "61"), true);
        check("202 operations", Wire.hex("51"), Wire.times(202, "61"), false);
        byte[] closed = Wire.join(Wire.hex("63"), Wire.times(200, "61"), Wire.hex("68"));
        check("202 that are not done", Wire.hex("51 00"), closed, false);
        closed = Wire.join(Wire.hex("63"), Wire.times(199, "61"), Wire.hex("68"));
        check("201 that are not done", Wire.hex("51 00"), closed, true);
        check("constants do not count", Wire.hex("51"), Wire.join(Wire.times(300, "60"), Wire.times(201, "61")), true);
        check("201 for each script", Wire.join(Wire.hex("51"), Wire.times(201, "61")), Wire.times(201, "61"), true);
        byte[] keys = Wire.hex("00 00 51 51 51 53");
        check("keys count", keys, Wire.join(Wire.times(197, "61"), Wire.hex("ae")), true);
        check("keys count too", keys, Wire.join(Wire.times(198, "61"), Wire.hex("ae")), false);
        closed = Wire.join(Wire.hex("63 53 ae 68"), Wire.times(198, "61"));
        check("keys that are not done", Wire.hex("51 00"), closed, true);
        check("20 keys", Wire.join(Wire.hex("00 00"), Wire.times(20, "51")), Wire.hex("0114ae"), true);
        check("21 keys", Wire.join(Wire.hex("00 00"), Wire.times(21, "51")), Wire.hex("0115ae"), false);
    }

    /** 201 hashes in both scripts of three inputs: each of them begins anew. */
    private static void asManyBytesAsOperationsMake() {
        Bench x = Bench.grown(3);
        byte[] lock = Wire.times(201, "a8");
        byte[] script = Wire.join(Wire.hex("51"), Wire.times(201, "aa"));
        Wire.Tx made = new Wire.Tx().in(Bench.COIN_0, 0, Bench.EMPTY, 0).out(1, lock).out(2, lock).out(3, lock);
        Check.same("made", x.add(3, made), 0);
        Wire.Tx spend = new Wire.Tx().in(made, 0, script).in(made, 1, script).in(made, 2, script).out(6, Bench.TRUE);
        Check.same("spent", x.add(4, spend), 0);
    }

    /** What a script that failed has left behind does not touch the next one. */
    private static void oneBehindAnother() {
        String[] failing = {"51 63", "00 63", "51 63 67", "51 6b 6c 6c", "51 51 6b 6b 6a", "61".repeat(202), "51 ab 6a",
            "51".repeat(999) + "6b5151516a"};
        for (String script : failing) {
            Bench x = Bench.grown(3);
            Wire.Tx bad = new Wire.Tx().in(Bench.COIN_0, 0, Wire.hex(script), 0).out(1, Bench.TRUE);
            Check.same("fails: " + script, x.add(3, bad), -14);
            Wire.Tx fine = new Wire.Tx().in(Bench.COIN_0, 0, Wire.hex("51 63 52 67 6a 68 6b 6c"), 0).out(1, Bench.TRUE);
            Check.same("fine behind it", x.add(3, fine), 0);
            Wire.Tx dry = new Wire.Tx().in(fine, 0, Wire.hex("6c")).out(1, Bench.TRUE);
            Check.same("nothing aside", x.add(x.last(), dry), -14);
        }
    }

    private static void inner(String what, String before, String script, boolean yes) {
        byte[] inner = Wire.hex(script);
        check(what, Wire.join(Wire.hex(before), Wire.push(inner)), Bench.lockOf(inner), yes);
    }

    private static void innerScripts() {
        inner("the stack without its top", "52 53", "5387 69 5287", true);
        inner("false at the end", "52", "53 87", false);
        inner("nothing at the end", "", "61", false);
        inner("what is there stays", "51", "61", true);
        inner("it fails", "51", "6a", false);
        inner("it goes beyond the end", "51", "51 02 51", false);
        inner("an open branch", "51", "51 63", false);
        inner("operations count anew", "51", "61".repeat(201), true);
        inner("but at most 201", "51", "61".repeat(202), false);
        inner("up to 96", "60 4f", "8b 0087 69 011087", true);
        inner("80 is a push, but fails", "50", "51", false);
        inner("no inner one in an inner one", "01 00", "a914 da1745e9b549bd0bfa1a569971c77eba30cd5a4b 87", false);
        byte[] longest = Wire.join(Wire.times(519, "51"), Wire.hex("51"));
        check("520 bytes", Wire.push(longest), Bench.lockOf(longest), true);
    }

    /** Height 4 is the block's, 1002400 its parent's time. */
    private static void locks() {
        lock("a lock that is reached", "53 b1", 3, 0, true);
        lock("a later one", "54 b1", 3, 0, false);
        lock("of 0", "00 b1 75 51", 0, 0, true);
        lock("below 0", "4f b1 75 51", 3, 0, false);
        lock("with nothing", "b1 51", 3, 0, false);
        lock("with the last sequence", "53 b1", 3, Wire.MOST, false);
        lock("with another sequence", "53 b1", 3, Wire.MOST - 1, true);
        lock("of five bytes", "05 0300000000 b1", 3, 0, true);
        lock("of six bytes", "06 030000000000 b1", 3, 0, false);
        lock("it stays", "53 b1 5387", 3, 0, true);
        lock("a time for a height", "04 0065cd1d b1", 3, 0, false);
        lock("not done", "51 00 63 54 b1 68", 3, 0, true);
        // 500000000 is the first time; times of blocks lie below it here, so it stays open.
        Check.same("a lock that is no last one", Bench.spend(new byte[0], Wire.hex("51"), 500000000, 0), -10);
        timeLocks();
    }

    private static void lock(String what, String script, long lock, long sequence, boolean yes) {
        Check.same(what, Bench.spend(new byte[0], Wire.hex(script), lock, sequence), yes ? 0 : -14);
    }

    private static void timeLocks() {
        String[] scripts = {"04 0065cd1d b1", "04 0165cd1d b1", "53 b1", "04 ff64cd1d b1"};
        int[] want = {0, -14, -14, -14};
        for (int i = 0; i < scripts.length; i++) {
            Bench x = Bench.grown(3);
            byte[] id = Wire.firstTransaction(Wire.hex("0000"), 5000000000L).id();
            Wire.Tx made = new Wire.Tx().in(id, 0, new byte[0], Wire.MOST).out(1, Wire.hex(scripts[i]));
            Wire.Tx spender = new Wire.Tx().in(made.id(), 0, new byte[0], 0).out(1, Bench.TRUE);
            spender.lock = 500000000;
            Check.same("a lock by time: " + scripts[i], x.judge(x.block(3, 500000001, made, spender)), want[i]);
        }
    }
}
