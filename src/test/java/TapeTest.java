import java.nio.charset.StandardCharsets;
import java.util.Arrays;

/** Promises 1 (the tape of a new object), 2 feed, 3 end, 4 patch, 6 digest, 19 word, and 15 for the tape. */
public final class TapeTest {
    private TapeTest() {
    }

    public static void main(String[] args) {
        feedAddsBytesTheHighestFirst();
        feedStopsAtTheLimit();
        endCutsTheTape();
        patchChangesOneByte();
        wordReadsBeyondTheEnd();
        digestsOfAllLengths();
        digestsOfKnownTexts();
        digestRefusesOthers();
        Check.end();
    }

    private static void feedAddsBytesTheHighestFirst() {
        Bench x = new Bench();
        Check.same("a new tape", x.judge.tell(0), 0);
        Check.same("feed", x.judge.feed(0x01020304, -1, 0x80000000, 0x000000ff, 0x7f000001), 20);
        Check.same("fed", x.tape(), Wire.hex("01020304 ffffffff 80000000 000000ff 7f000001"));
        Check.same("feed again", x.judge.feed(1, 2, 3, 4, 5), 40);
        Check.same("tell", x.judge.tell(0), 40);
    }

    private static void feedStopsAtTheLimit() {
        Bench x = new Bench();
        for (int i = 1; i <= 80; i++) {
            Check.same("feed", x.judge.feed(i, 0, 0, 0, 0), 20 * i);
        }
        Check.noRoom("feed at 1600", () -> x.judge.feed(1, 1, 1, 1, 1));
        Check.same("not changed", x.judge.tell(0), 1600);
        x.judge.end(1581);
        Check.noRoom("feed at 1581", () -> x.judge.feed(1, 1, 1, 1, 1));
        x.judge.end(1580);
        Check.same("feed at 1580", x.judge.feed(1, 1, 1, 1, 1), 1600);
    }

    private static void endCutsTheTape() {
        Bench x = new Bench();
        Check.same("end of nothing", x.judge.end(0), 0);
        Check.outOfRange("end beyond nothing", () -> x.judge.end(1));
        x.tape("0102030405");
        Check.outOfRange("end -1", () -> x.judge.end(-1));
        Check.outOfRange("end beyond", () -> x.judge.end(6));
        Check.same("end of all", x.judge.end(5), 5);
        Check.same("keeps all", x.tape(), Wire.hex("0102030405"));
        Check.same("end", x.judge.end(2), 2);
        Check.same("cut", x.tape(), Wire.hex("0102"));
        x.judge.feed(-1, -1, -1, -1, -1);
        Check.same("feed behind", x.judge.word(0), 0x0102ffffffffffffL);
        Check.same("end of nothing again", x.judge.end(0), 0);
        Check.same("told", x.judge.tell(0), 0);
        Bench full = new Bench();
        full.tape(pattern(1600));
        Check.same("end of 1600", full.judge.end(1600), 1600);
        Check.same("end of 1599", full.judge.end(1599), 1599);
        Check.outOfRange("it does not come back", () -> full.judge.end(1600));
    }

    private static void patchChangesOneByte() {
        Bench x = new Bench();
        Check.outOfRange("patch of nothing", () -> x.judge.patch(0, 1));
        x.tape("01ff03");
        Check.same("patch", x.judge.patch(1, 0x1280), 255);
        Check.same("patch again", x.judge.patch(1, -2), 128);
        Check.same("patched", x.tape(), Wire.hex("01fe03"));
        Check.same("the first", x.judge.patch(0, 8), 1);
        Check.same("the last", x.judge.patch(2, 9), 3);
        Check.same("patched", x.tape(), Wire.hex("08fe09"));
        Check.outOfRange("patch -1", () -> x.judge.patch(-1, 1));
        Check.outOfRange("patch behind", () -> x.judge.patch(3, 1));
        int[] given = {255, 256, -1, 0x7fffff80, Integer.MIN_VALUE};
        int[] lowest = {255, 0, 255, 128, 0};
        for (int i = 0; i < given.length; i++) {
            x.judge.patch(0, given[i]);
            Check.same("the lowest byte of " + given[i], x.judge.patch(0, 7), lowest[i]);
        }
        Bench full = new Bench();
        full.tape(pattern(1600));
        Check.same("byte 1599", full.judge.patch(1599, 1), pattern(1600)[1599] & 255);
        Check.same("patched", full.judge.word(1599), 1L << 56);
        Check.outOfRange("byte 1600", () -> full.judge.patch(1600, 1));
        full.judge.end(4);
        Check.outOfRange("a byte that was cut", () -> full.judge.patch(4, 1));
    }

    private static void wordReadsBeyondTheEnd() {
        Bench x = new Bench();
        Check.noRoom("word of nothing", () -> x.judge.word(0));
        x.tape("8102030405060708090a");
        Check.same("word", x.judge.word(0), 0x8102030405060708L);
        Check.same("word 2", x.judge.word(2), 0x030405060708090aL);
        Check.same("word 3", x.judge.word(3), 0x0405060708090a00L);
        Check.same("word 9", x.judge.word(9), 0x0a00000000000000L);
        Check.noRoom("word 10", () -> x.judge.word(10));
        Check.noRoom("word -1", () -> x.judge.word(-1));
        x.judge.feed(-1, -1, -1, -1, -1);
        x.judge.end(12);
        Check.same("what was cut is zeros", x.judge.word(8), 0x090affff00000000L);
        Check.noRoom("what was cut is no byte", () -> x.judge.word(12));
        Bench full = new Bench();
        full.tape(Wire.times(800, "fedc"));
        Check.same("the last eight of 1600", full.judge.word(1592), 0xfedcfedcfedcfedcL);
        Check.same("the last seven", full.judge.word(1593), 0xdcfedcfedcfedc00L);
        Check.same("the last one", full.judge.word(1599), 0xdc00000000000000L);
        Check.noRoom("word 1600", () -> full.judge.word(1600));
    }

    private static byte[] pattern(int n) {
        byte[] text = new byte[n];
        for (int i = 0; i < n; i++) {
            text[i] = (byte) (7 * i + i / 256);
        }
        return text;
    }

    private static void digestsOfAllLengths() {
        byte[] text = pattern(1600);
        for (int n = 0; n <= 1600; n += n < 200 ? 1 : 140) {
            Bench x = new Bench();
            byte[] part = Arrays.copyOf(text, n);
            x.tape(part);
            Check.same("digest 0", x.judge.digest(0), 32);
            Check.same("SHA of " + n, x.tape(), Wire.sha(part));
            x.tape(part);
            Check.same("digest 3", x.judge.digest(3), 32);
            Check.same("TWICE of " + n, x.tape(), Wire.twice(part));
            x.tape(Wire.sha(part));
            Check.same("digest 1", x.judge.digest(1), 20);
            byte[] ripe = x.tape();
            x.tape(part);
            Check.same("digest 2", x.judge.digest(2), 20);
            Check.same("HASH160 of " + n, x.tape(), ripe);
        }
    }

    private static void digestsOfKnownTexts() {
        ripe("", "9c1185a5c5e9fc54612808977ee8f548b2258d31");
        ripe("a", "0bdc9d2d256b3ee9daae347be6f4dc835a467ffe");
        ripe("abc", "8eb208f7e05d987a9b044a8e98c6b087f15a0bfc");
        ripe("message digest", "5d0689ef49d2fae572b881b123a85ffa21595f36");
        ripe("abcdefghijklmnopqrstuvwxyz", "f71c27109c692c1b56bbdceb5b9d2865b3708dbc");
        ripe("abcdbcdecdefdefgefghfghighijhijkijkljklmklmnlmnomnopnopq", "12a053384a9c0c88e405a06c27dcf49ada62eb2b");
        ripe("1234567890".repeat(8), "9b752e45573d4b39f4dbd3323cab82bf63326bfb");
        ripe(pattern(55), "115fb02add31889f6d63bfeec3de2571227cd178");
        ripe(pattern(56), "c91bf9b49b5d88b87e278be49b7300da105631a7");
        ripe(pattern(57), "be2aa9d6611aafbfd9f2253fc0d198b52f38ec3b");
        ripe(pattern(63), "fad22cd239b144a3952b13fb8bbf11ae1bbf460b");
        ripe(pattern(64), "9b45044af9bef4cb244c0c02a880c30353d644a8");
        ripe(pattern(65), "c78a9d10d724818f8d058e10bda06a004f14508c");
        ripe(pattern(119), "750e240ed6a2016fa977716005b5b92a37f7cd71");
        ripe(pattern(120), "51bd1331669e2c2d038f80e7c4385fe16ed73bdd");
        ripe(pattern(126), "cfa7ed3f03e42c2ddb97b77fec27c58e50ad1460");
        ripe(pattern(127), "e33951d08c6dfb42fdddfec3e44216f7bed90b98");
        ripe(pattern(128), "be8bccdcdc8a5cfaf872d10a92c75fe98311f3a8");
        ripe(pattern(200), "5f46013eeca0be822ec2c04dfac8ec3a343722b9");
        ripe(pattern(1600), "77b418235840dc66eb8fe73ae42ba12970a1115c");
    }

    private static void ripe(String text, String want) {
        ripe(text.getBytes(StandardCharsets.US_ASCII), want);
    }

    private static void ripe(byte[] text, String want) {
        Bench x = new Bench();
        x.tape(text);
        Check.same("digest", x.judge.digest(1), 20);
        Check.same("RIPE of " + text.length, x.tape(), Wire.hex(want));
    }

    private static void digestRefusesOthers() {
        Bench x = new Bench();
        x.tape("010203");
        Check.outOfRange("digest -1", () -> x.judge.digest(-1));
        Check.outOfRange("digest 4", () -> x.judge.digest(4));
        Check.same("not changed", x.tape(), Wire.hex("010203"));
    }
}
