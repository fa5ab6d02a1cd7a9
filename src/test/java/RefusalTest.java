import java.util.function.Consumer;

/**
 * What is thrown, in which order, for every call that can throw: a number out of range first, then as the call says;
 * and that a call that throws changes nothing (judge, which says otherwise, is looked at in JudgeTest).
 */
public final class RefusalTest {
    private static final Class<IllegalArgumentException> RANGE = IllegalArgumentException.class;
    private static final Class<IllegalStateException> EARLY = IllegalStateException.class;
    private static final Class<IndexOutOfBoundsException> ROOM = IndexOutOfBoundsException.class;
    private static final int[] INT_ENDS = {Integer.MIN_VALUE, Integer.MAX_VALUE};
    private static final long[] NO_32_BITS = {-1, 1L << 32, Long.MIN_VALUE, Long.MAX_VALUE};

    private RefusalTest() {
    }

    public static void main(String[] args) {
        feed();
        end();
        patch();
        key();
        digest();
        open();
        tx();
        input();
        inputWithoutRoom();
        output();
        push();
        sign();
        seal();
        told();
        word();
        Check.end();
    }

    /** Two judges come to the same state; just one of them makes the call, and both are the same then. */
    private static void refused(String what, Class<? extends RuntimeException> kind, Consumer<Bench> before,
            Consumer<Counted> call) {
        Bench x = new Bench();
        Bench y = new Bench();
        before.accept(x);
        before.accept(y);
        Check.fails(what, kind, () -> call.accept(x.judge));
        Check.same(what + ": changes nothing", x.state(), y.state());
    }

    private static void nothing(Bench x) {
        Check.same("a new tape", x.judge.tell(0), 0);
    }

    /** Three bytes on the tape, and a draft on number 0 with an input and an output. */
    private static void some(Bench x) {
        x.judge.tx(3, 4);
        x.tape("0102");
        x.judge.input(-1, 0, 0, 5);
        x.tape("51");
        x.judge.output(6);
        x.tape("a1a2a3");
    }

    private static Consumer<Bench> tapeOf(int bytes) {
        return x -> x.tape(Wire.times(bytes, "a7"));
    }

    private static void feed() {
        refused("feed at 1600", ROOM, tapeOf(1600), j -> j.feed(1, 2, 3, 4, 5));
        refused("feed at 1581", ROOM, tapeOf(1581), j -> j.feed(1, 2, 3, 4, 5));
    }

    private static void end() {
        refused("end beyond nothing", RANGE, RefusalTest::nothing, j -> j.end(1));
        refused("end -1", RANGE, RefusalTest::some, j -> j.end(-1));
        refused("end beyond", RANGE, RefusalTest::some, j -> j.end(4));
        refused("end beyond 1600", RANGE, tapeOf(1600), j -> j.end(1601));
        for (int n : INT_ENDS) {
            refused("end " + n, RANGE, RefusalTest::some, j -> j.end(n));
        }
    }

    private static void patch() {
        refused("patch of nothing", RANGE, RefusalTest::nothing, j -> j.patch(0, 1));
        refused("patch -1", RANGE, RefusalTest::some, j -> j.patch(-1, 1));
        refused("patch behind the last", RANGE, RefusalTest::some, j -> j.patch(3, 1));
        refused("patch 1600", RANGE, tapeOf(1600), j -> j.patch(1600, 1));
        for (int i : INT_ENDS) {
            refused("patch " + i, RANGE, RefusalTest::some, j -> j.patch(i, 1));
        }
    }

    private static void key() {
        for (int n : new int[] {0, -1, Integer.MIN_VALUE}) {
            refused("KEY " + n, RANGE, RefusalTest::some, j -> j.key(n, 0));
            refused("KEY " + n + " before the room", RANGE, tapeOf(1600), j -> j.key(n, 1));
        }
        for (int form : new int[] {-1, 3, Integer.MIN_VALUE, Integer.MAX_VALUE}) {
            refused("form " + form, RANGE, RefusalTest::some, j -> j.key(1, form));
            refused("form " + form + " before the room", RANGE, tapeOf(1600), j -> j.key(1, form));
        }
        refused("33 bytes", ROOM, tapeOf(1568), j -> j.key(1, 0));
        refused("65 bytes", ROOM, tapeOf(1536), j -> j.key(1, 1));
        refused("20 bytes", ROOM, tapeOf(1581), j -> j.key(1, 2));
    }

    private static void digest() {
        for (int what : new int[] {-1, 4, Integer.MIN_VALUE, Integer.MAX_VALUE}) {
            refused("digest " + what, RANGE, RefusalTest::some, j -> j.digest(what));
        }
    }

    private static void open() {
        for (int parent : new int[] {-2, 1, Integer.MIN_VALUE, Integer.MAX_VALUE}) {
            refused("open on " + parent, RANGE, RefusalTest::some, j -> j.open(parent, 1));
        }
        for (long time : NO_32_BITS) {
            refused("open at " + time, RANGE, RefusalTest::some, j -> j.open(0, time));
            refused("open on the best at " + time, RANGE, RefusalTest::some, j -> j.open(-1, time));
        }
    }

    private static void twelve(Bench x) {
        for (int i = 1; i <= 12; i++) {
            x.judge.tx(i, 0);
        }
    }

    private static void tx() {
        for (long wrong : NO_32_BITS) {
            refused("version " + wrong, RANGE, RefusalTest::some, j -> j.tx(wrong, 0));
            refused("lock " + wrong, RANGE, RefusalTest::some, j -> j.tx(1, wrong));
            refused("version " + wrong + " before the room", RANGE, RefusalTest::twelve, j -> j.tx(wrong, 0));
            refused("lock " + wrong + " before the room", RANGE, RefusalTest::twelve, j -> j.tx(1, wrong));
        }
        refused("the 13th", ROOM, RefusalTest::twelve, j -> j.tx(1, 0));
    }

    private static void input() {
        for (int b : new int[] {-3, 1, Integer.MIN_VALUE, Integer.MAX_VALUE}) {
            refused("b " + b, RANGE, RefusalTest::some, j -> j.input(b, 0, 0, 0));
            refused("b " + b + " before a transaction", RANGE, RefusalTest::nothing, j -> j.input(b, 0, 0, 0));
        }
        for (int t : new int[] {-1, 1, Integer.MIN_VALUE, Integer.MAX_VALUE}) {
            refused("t " + t, RANGE, RefusalTest::some, j -> j.input(0, t, 0, 0));
            refused("t " + t + " of the draft", RANGE, RefusalTest::some, j -> j.input(-2, t, 0, 0));
            refused("t " + t + " before a transaction", RANGE, RefusalTest::nothing, j -> j.input(0, t, 0, 0));
        }
        for (long sequence : NO_32_BITS) {
            refused("sequence " + sequence, RANGE, RefusalTest::some, j -> j.input(0, 0, 0, sequence));
            refused("sequence " + sequence + " of NONE", RANGE, RefusalTest::some, j -> j.input(-1, 0, 0, sequence));
            refused("before a transaction", RANGE, RefusalTest::nothing, j -> j.input(-1, 0, 0, sequence));
        }
        refused("t 0 of an empty draft", RANGE, RefusalTest::nothing, j -> j.input(-2, 0, 0, 0));
        refused("no transaction", EARLY, RefusalTest::nothing, j -> j.input(0, 0, 0, 0));
        refused("no transaction for NONE", EARLY, RefusalTest::nothing, j -> j.input(-1, -9, 0, 0));
        refused("no transaction before the room", EARLY, tapeOf(601), j -> j.input(0, 0, 0, 0));
    }

    private static void six(Bench x) {
        x.judge.tx(1, 0);
        for (int i = 0; i < 6; i++) {
            x.judge.input(-1, 0, 0, i);
            x.judge.output(i);
        }
        x.tape("b1b2");
    }

    private static Consumer<Bench> transactionAndTapeOf(int bytes) {
        return x -> {
            x.judge.tx(1, 0);
            x.judge.input(-1, 0, 0, 9);
            x.tape(Wire.times(bytes, "a7"));
        };
    }

    private static void inputWithoutRoom() {
        refused("the seventh", ROOM, RefusalTest::six, j -> j.input(-1, 0, 0, 0));
        refused("the seventh of the draft", ROOM, RefusalTest::six, j -> j.input(-2, 0, 0, 0));
        refused("out of range before the seventh", RANGE, RefusalTest::six, j -> j.input(-2, 1, 0, 0));
        refused("601 bytes", ROOM, transactionAndTapeOf(601), j -> j.input(-1, 0, 0, 0));
        refused("1600 bytes", ROOM, transactionAndTapeOf(1600), j -> j.input(0, 0, 0, 0));
        refused("out of range before 601 bytes", RANGE, transactionAndTapeOf(601), j -> j.input(-1, 0, 0, -1));
    }

    private static void output() {
        refused("no transaction", EARLY, RefusalTest::nothing, j -> j.output(1));
        refused("no transaction before the room", EARLY, tapeOf(601), j -> j.output(1));
        refused("the seventh", ROOM, RefusalTest::six, j -> j.output(1));
        refused("601 bytes", ROOM, transactionAndTapeOf(601), j -> j.output(1));
        refused("1600 bytes", ROOM, transactionAndTapeOf(1600), j -> j.output(-1));
    }

    private static void push() {
        for (int i : new int[] {0, -1, 1, Integer.MIN_VALUE, Integer.MAX_VALUE}) {
            refused("no transaction: " + i, EARLY, RefusalTest::nothing, j -> j.push(i));
            refused("no transaction before the room: " + i, EARLY, tapeOf(601), j -> j.push(i));
        }
        for (int i : new int[] {-1, 1, Integer.MIN_VALUE, Integer.MAX_VALUE}) {
            refused("i " + i, RANGE, RefusalTest::some, j -> j.push(i));
            refused("i " + i + " before the room", RANGE, transactionAndTapeOf(601), j -> j.push(i));
        }
        refused("a seventh input", RANGE, RefusalTest::six, j -> j.push(6));
        refused("no input", RANGE, x -> x.judge.tx(1, 0), j -> j.push(0));
        refused("598 bytes", ROOM, transactionAndTapeOf(598), j -> j.push(0));
        refused("1600 bytes", ROOM, transactionAndTapeOf(1600), j -> j.push(0));
        refused("a push of nothing behind 600 bytes", ROOM, scriptOf(600), j -> j.push(0));
    }

    /** A draft whose only input has a script of so many bytes. */
    private static Consumer<Bench> scriptOf(int bytes) {
        return x -> {
            x.judge.tx(1, 0);
            x.tape(Wire.times(bytes, "52"));
            x.judge.input(0, 0, 0, 9);
        };
    }

    private static void sign() {
        for (int i : new int[] {0, -1, 1, Integer.MIN_VALUE, Integer.MAX_VALUE}) {
            refused("no transaction: " + i, EARLY, RefusalTest::nothing, j -> j.sign(i, 1, 1));
        }
        refused("no transaction before n", EARLY, RefusalTest::nothing, j -> j.sign(0, 0, 1));
        refused("no transaction before type", EARLY, RefusalTest::nothing, j -> j.sign(0, 1, 256));
        for (int i : new int[] {-1, 1, Integer.MIN_VALUE, Integer.MAX_VALUE}) {
            refused("i " + i, RANGE, RefusalTest::some, j -> j.sign(i, 1, 1));
        }
        refused("no input", RANGE, x -> x.judge.tx(1, 0), j -> j.sign(0, 1, 1));
        for (int n : new int[] {0, -1, Integer.MIN_VALUE}) {
            refused("KEY " + n, RANGE, RefusalTest::some, j -> j.sign(0, n, 1));
            refused("KEY " + n + " before the room", RANGE, scriptOf(501), j -> j.sign(0, n, 1));
        }
        for (int type : new int[] {-1, 256, Integer.MIN_VALUE, Integer.MAX_VALUE}) {
            refused("type " + type, RANGE, RefusalTest::some, j -> j.sign(0, 1, type));
            refused("type " + type + " before the room", RANGE, scriptOf(501), j -> j.sign(0, 1, type));
        }
        refused("501 bytes", ROOM, scriptOf(501), j -> j.sign(0, 1, 1));
        refused("600 bytes", ROOM, scriptOf(600), j -> j.sign(0, 1, 1));
    }

    /** A draft that has 1601 bytes as a block. */
    private static void tooLong(Bench x) {
        x.judge.tx(1, 0);
        x.tape(new byte[600]);
        x.judge.input(-1, 0, 0, 0);
        x.tape(new byte[600]);
        x.judge.output(0);
        x.tape(new byte[247]);
        x.judge.output(0);
        x.tape("c1c2");
    }

    private static void seal() {
        for (int spoil : new int[] {-1, 6, Integer.MIN_VALUE, Integer.MAX_VALUE}) {
            refused("spoil " + spoil, RANGE, RefusalTest::some, j -> j.seal(spoil));
            refused("spoil " + spoil + " before the room", RANGE, RefusalTest::tooLong, j -> j.seal(spoil));
        }
        for (int spoil = 0; spoil <= 5; spoil++) {
            int given = spoil;
            refused("1601 bytes, spoil " + spoil, ROOM, RefusalTest::tooLong, j -> j.seal(given));
        }
    }

    private static void told() {
        for (int what : new int[] {-1, 7, Integer.MIN_VALUE, Integer.MAX_VALUE}) {
            refused("tell " + what, RANGE, RefusalTest::some, j -> j.tell(what));
        }
        for (int b : new int[] {-1, 1, Integer.MIN_VALUE, Integer.MAX_VALUE}) {
            refused("block " + b, RANGE, RefusalTest::some, j -> j.block(b, 0));
            refused("coin of block " + b, RANGE, RefusalTest::some, j -> j.coin(b, 0, 0));
        }
        for (int what : new int[] {-1, 9, Integer.MIN_VALUE, Integer.MAX_VALUE}) {
            refused("block 0, " + what, RANGE, RefusalTest::some, j -> j.block(0, what));
        }
        for (int t : new int[] {-1, 1, Integer.MIN_VALUE, Integer.MAX_VALUE}) {
            refused("coin of transaction " + t, RANGE, RefusalTest::some, j -> j.coin(0, t, 0));
        }
        refused("no coin of the draft", RANGE, RefusalTest::some, j -> j.coin(-2, 0, 0));
    }

    private static void word() {
        refused("word of nothing", ROOM, RefusalTest::nothing, j -> j.word(0));
        for (int i : new int[] {-1, 3, Integer.MIN_VALUE, Integer.MAX_VALUE}) {
            refused("word " + i, ROOM, RefusalTest::some, j -> j.word(i));
        }
        refused("word 1600", ROOM, tapeOf(1600), j -> j.word(1600));
    }
}
