/** Promise 5 key. */
public final class KeyTest {
    private KeyTest() {
    }

    public static void main(String[] args) {
        knownKeys();
        int[] numbers = {1, 2, 3, 4, 5, 7, 14, 15, 16, 17, 31, 255, 256, 4097, 65535, 1000003, 0x40000000, 0x7fffffff};
        for (int n : numbers) {
            keysOf(n);
        }
        wrongNumbers();
        noRoom();
        Check.end();
    }

    private static void knownKeys() {
        Bench x = new Bench();
        x.judge.key(1, 0);
        Check.same("KEY 1", x.tape(),
                Wire.hex("0279be667ef9dcbbac55a06295ce870b07029bfcdb2dce28d959f2815b16f81798"));
        x.judge.end(0);
        x.judge.key(1, 2);
        Check.same("HASH160 of KEY 1", x.tape(), Wire.hex("751e76e8199196d454941c45d1b3a323f1433bd6"));
    }

    private static void keysOf(int n) {
        Bench x = new Bench();
        x.tape("aabb");
        Check.same("form 0", x.judge.key(n, 0), 35);
        Check.same("form 1", x.judge.key(n, 1), 100);
        Check.same("form 2", x.judge.key(n, 2), 120);
        byte[] all = x.tape();
        x.tape(Ec.key(n, false));
        x.judge.digest(2);
        byte[] want = Wire.join(Wire.hex("aabb"), Ec.key(n, false), Ec.key(n, true), x.tape());
        Check.same("KEY " + n, all, want);
    }

    private static void wrongNumbers() {
        Bench x = new Bench();
        Check.outOfRange("KEY 0", () -> x.judge.key(0, 0));
        Check.outOfRange("KEY -1", () -> x.judge.key(-1, 0));
        Check.outOfRange("the least", () -> x.judge.key(Integer.MIN_VALUE, 2));
        Check.outOfRange("form -1", () -> x.judge.key(1, -1));
        Check.outOfRange("form 3", () -> x.judge.key(1, 3));
        x.tape(new byte[1600]);
        Check.outOfRange("a number out of range comes first", () -> x.judge.key(0, 0));
    }

    private static void noRoom() {
        int[] sizes = {33, 65, 20};
        for (int form = 0; form < 3; form++) {
            int last = form;
            Bench x = new Bench();
            x.tape(new byte[1601 - sizes[form]]);
            Check.noRoom("form " + form, () -> x.judge.key(9, last));
            Check.same("not changed", x.judge.tell(0), 1601 - sizes[form]);
            x.judge.end(1600 - sizes[form]);
            Check.same("just room", x.judge.key(9, form), 1600);
        }
    }
}
