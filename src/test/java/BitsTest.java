import java.math.BigInteger;
import java.util.Arrays;

/** BITS, TARGET and WORK, DUE BITS and the MIDDLE of times: promises 13 seal, 14 judge and 16 block. */
public final class BitsTest {
    private BitsTest() {
    }

    public static void main(String[] args) {
        thoseOfTheParent();
        spansAtTheirBounds();
        spansThatMakeItEasier();
        neverAboveTheEasiest();
        theHighestBitOfThree();
        timesThatCount();
        timesOfTheOwnBranch();
        backInTime();
        othersAreRefused();
        manySpans();
        workOfHarderChains();
        workOfAPowerOfTwo();
        workDecidesNotHeight();
        middles();
        elevenTimes();
        Check.end();
    }

    /** Seven blocks more, the last one so many seconds behind the one that they stand on; the next height is due. */
    private static void growBy(Bench x, long span) {
        long start = x.time(x.last());
        for (int i = 0; i < 6; i++) {
            x.grow(1);
        }
        x.grow(span - (x.time(x.last()) - start));
    }

    private static void due(String what, Bench x, long bits) {
        Check.same(what, x.sealedBits(x.last()), bits);
        x.grow(600);
        Check.same(what + ": judged", x.judge.block(x.last(), 4), bits);
    }

    private static void thoseOfTheParent() {
        Bench x = new Bench();
        growBy(x, 2400);
        due("at 8", x, 0x203FFFFFL);
        for (int h = 9; h < 16; h++) {
            due("at " + h, x, 0x203FFFFFL);
        }
    }

    /** The easiest target is 7FFFFF and 29 bytes 0; a fourth of it 1FFFFF C0 and so on. */
    private static void spansAtTheirBounds() {
        long[] spans = {7, 1199, 1200, 1201, 2400, 4799, 4800};
        long[] bits = {0x201FFFFFL, 0x201FFFFFL, 0x201FFFFFL, 0x202006D3L, 0x203FFFFFL, 0x207FF92BL, 0x207FFFFFL};
        for (int i = 0; i < spans.length; i++) {
            Bench x = new Bench();
            growBy(x, spans[i]);
            due("a span of " + spans[i], x, bits[i]);
        }
    }

    /** From 201FFFFF on: by four at most, which is 7FFFFC. */
    private static void spansThatMakeItEasier() {
        long[] spans = {4799, 4800, 4801, 9600, 19199, 19200, 19201, 1000000};
        long[] bits = {0x201FFE4AL, 0x201FFFFFL, 0x202001B3L, 0x203FFFFEL, 0x207FFE47L, 0x207FFFFCL, 0x207FFFFCL,
            0x207FFFFCL};
        for (int i = 0; i < spans.length; i++) {
            Bench x = new Bench();
            growBy(x, 7);
            Check.same("a fourth", x.due(x.last()), 0x201FFFFFL);
            x.grow(1);
            growBy(x, spans[i]);
            due("a span of " + spans[i], x, bits[i]);
        }
    }

    private static void neverAboveTheEasiest() {
        for (long span : new long[] {4801, 9600, 19200, 4000000}) {
            Bench x = new Bench();
            growBy(x, span);
            due("a span of " + span, x, Wire.EASIEST);
        }
        Bench x = new Bench();
        growBy(x, 4799);
        x.grow(1);
        growBy(x, 4802);
        due("a little above it", x, Wire.EASIEST);
    }

    /** 7FFFFF, 1FFFFF, 07FFFF, 01FFFF, then by two: FFFF80 has its highest bit set, so it is 00FFFF, a byte more. */
    private static void theHighestBitOfThree() {
        Bench x = new Bench();
        long[] spans = {7, 7, 7, 2400, 7};
        long[] bits = {0x201FFFFFL, 0x2007FFFFL, 0x2001FFFFL, 0x2000FFFFL, 0x1F3FFFC0L};
        for (int i = 0; i < spans.length; i++) {
            growBy(x, spans[i]);
            due("step " + i, x, bits[i]);
        }
    }

    /** Neither the block 9 lower nor that 7 lower tells the span, nor this one's own time. */
    private static void timesThatCount() {
        Bench x = new Bench();
        growBy(x, 4000);
        x.grow(300);
        Check.same("height 8", x.height(x.last()), 8);
        long bits = x.bits(x.last());
        x.grow(700);
        growBy(x, 1000);
        // From height 8 to 15 these are 700 and 6 of the 1000 seconds.
        due("height 16", x, Bench.dueAfter(bits, 706));
        Bench y = new Bench();
        growBy(y, 4800);
        y.judge.open(y.last(), Wire.MOST);
        y.judge.seal(0);
        Check.same("not its own time", Integer.reverseBytes((int) (y.judge.word(72) >>> 32)), 0x207FFFFF);
    }

    private static void timesOfTheOwnBranch() {
        Bench x = new Bench();
        growBy(x, 1200);
        Check.same("another seventh", x.judge(x.block(6, x.time(0) + 2400)), 1);
        Check.same("on the one", x.sealedBits(7), 0x201FFFFFL);
        Check.same("on the other", x.sealedBits(8), 0x203FFFFFL);
        Check.same("judged on the other", x.add(8), 2);
        Check.same("told", x.judge.block(9, 4), 0x203FFFFFL);
    }

    /** A time may lie before that of its parent: then the span is the least one, or what is left of it. */
    private static void backInTime() {
        Bench x = new Bench();
        for (int h = 1; h < 7; h++) {
            Check.same("judged", x.judge(x.block(h - 1, 2000000 + h)), 0);
        }
        Check.same("back", x.judge(x.block(6, 2000004)), 0);
        Check.same("due", x.sealedBits(7), Bench.dueAfter(Wire.EASIEST, 1000004));
        Bench y = new Bench();
        growBy(y, 7);
        y.grow(100000);
        for (int h = 9; h < 16; h++) {
            Check.same("judged", y.judge(y.block(h - 1, y.judge.block(h - 1, 8) + 1)), 0);
        }
        Check.same("below that of the block 8 lower", y.time(15) < y.time(8) ? 1 : 0, 1);
        Check.same("due", y.sealedBits(15), Bench.dueAfter(y.bits(8), 1200));
    }

    private static void othersAreRefused() {
        Bench x = new Bench();
        growBy(x, 2400);
        long[] others = {0x203FFFFEL, 0x20400000L, Wire.EASIEST};
        for (long bits : others) {
            byte[] block = Wire.block(x.hash(7), x.nextTime(7), bits, x.first(7));
            Check.same("at height 8 not " + Long.toHexString(bits), x.judge(block), -4);
        }
        Check.same("at height 8", x.add(7), 0);
        Check.same("at height 9 not the easiest",
                x.judge(Wire.block(x.hash(8), x.nextTime(8), Wire.EASIEST, x.first(8))), -4);
    }

    private static void manySpans() {
        long[] steps = {1, 150, 171, 172, 600, 685, 686, 900, 1400, 1900, 2100, 2742, 2743, 5000};
        for (long step : steps) {
            Bench x = new Bench();
            for (int h = 1; h <= 17; h++) {
                if (h % 8 == 0) {
                    Check.same("due at " + h + " with " + step, x.sealedBits(h - 1), x.due(h - 1));
                }
                x.grow(step);
            }
        }
    }

    private static void workOfHarderChains() {
        Bench x = new Bench();
        BigInteger work = BigInteger.TWO;
        for (int h = 1; h <= 25; h++) {
            x.grow(1);
            BigInteger target = Wire.target(x.bits(h));
            work = work.add(BigInteger.ONE.shiftLeft(256).divide(target.add(BigInteger.ONE)));
            Check.same("work at " + h, x.judge.block(h, 7), work.longValue());
        }
        // 2^256 by 1FFFFF00 .. 01 is 8.000004, by 7FFFFF00 .. 01 2.0000002: rounded down each time.
        Check.same("at height 7", x.judge.block(7, 7), 16);
        Check.same("at height 8", x.judge.block(8, 7), 24);
        Bench y = new Bench();
        growBy(y, 3000);
        Check.same("by 4FFFFF 60", y.due(7), 0x204FFFFFL);
        y.grow(1);
        Check.same("3.2 is 3", y.judge.block(8, 7), 19);
        y.grow(1);
        Check.same("and 3", y.judge.block(9, 7), 22);
    }

    /** 2^253: eight of them are 2^256, but it is one more that divides. */
    private static void workOfAPowerOfTwo() {
        Bench x = new Bench();
        growBy(x, 1348);
        x.grow(1);
        growBy(x, 4273);
        Check.same("the bits", x.due(x.last()), 0x20200000L);
        long before = x.judge.block(x.last(), 7);
        x.grow(1);
        Check.same("work", x.judge.block(x.last(), 7) - before, 7);
    }

    /** From height 7 on slow blocks have less work than the fast ones, so more of them must come. */
    private static void workDecidesNotHeight() {
        Bench y = new Bench();
        for (int h = 1; h <= 7; h++) {
            y.grow(1);
        }
        Check.same("a hard one", y.add(7), 0);
        Check.same("work", y.judge.block(8, 7), 16 + 8);
        Check.same("another seventh", y.judge(y.block(6, 1100000)), 1);
        int parent = 9;
        for (int i = 0; i < 4; i++) {
            Check.same("easy ones on it", y.add(parent), 1);
            parent++;
        }
        Check.same("as much work", y.judge.block(parent, 7), 24);
        Check.same("more blocks, no more work", y.judge.tell(3), 8);
        Check.same("more work", y.add(parent), 2);
        Check.same("the best", y.judge.tell(4), 12);
    }

    private static void middles() {
        Bench x = new Bench();
        long[] times = {1000000, 1000900, 1000500, 1000700, 1000600, 2000000, 1000800, 1000701, 1000950, 1000901,
            1000951, 1000802, 1000902, 1000952};
        for (int h = 1; h < times.length; h++) {
            int from = Math.max(0, h - 11);
            long[] before = Arrays.copyOfRange(times, from, h);
            Arrays.sort(before);
            long middle = before[before.length / 2];
            Check.same("middle below " + h, x.judge.block(h - 1, 8), middle);
            Check.same("not above it", x.judge(x.block(h - 1, middle)), -5);
            long time = Math.max(times[h], middle + 1);
            times[h] = time;
            Check.same("above it", x.judge(x.block(h - 1, time)), 0);
        }
    }

    /** The twelfth time back no longer counts: a high one in front shows it. */
    private static void elevenTimes() {
        Bench x = new Bench();
        Check.same("plain", x.judge(x.block(0, 1000001)), 0);
        Check.same("plain", x.judge(x.block(1, 1000002)), 0);
        Check.same("a high one", x.judge(x.block(2, 9000000)), 0);
        for (int h = 4; h <= 17; h++) {
            long middle = x.judge.block(h - 1, 8);
            long[] times = new long[Math.min(11, h)];
            for (int i = 0; i < times.length; i++) {
                times[i] = x.time(h - 1 - i);
            }
            Arrays.sort(times);
            Check.same("middle below " + h, middle, times[times.length / 2]);
            Check.same("above it", x.judge(x.block(h - 1, middle + 1)), 0);
        }
    }
}
