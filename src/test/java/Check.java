/** Counts the answers that are not as due; a test ends with exit code 1 if there was one. */
final class Check {
    private static int asked;
    private static int wrong;

    private Check() {
    }

    /** A call that may throw. */
    interface Call {
        void run();
    }

    static void same(String what, long got, long want) {
        asked++;
        if (got != want) {
            tell(what, String.valueOf(got), String.valueOf(want));
        }
    }

    static void same(String what, byte[] got, byte[] want) {
        same(what, Wire.hex(got), Wire.hex(want));
    }

    static void same(String what, String got, String want) {
        asked++;
        if (!got.equals(want)) {
            tell(what, got, want);
        }
    }

    /** The call throws just this kind of exception, not one below it. */
    static void fails(String what, Class<? extends RuntimeException> kind, Call call) {
        asked++;
        try {
            call.run();
            tell(what, "nothing", kind.getSimpleName());
        } catch (RuntimeException e) {
            if (e.getClass() != kind) {
                tell(what, e.toString(), kind.getSimpleName());
            }
        }
    }

    static void outOfRange(String what, Call call) {
        fails(what, IllegalArgumentException.class, call);
    }

    static void noRoom(String what, Call call) {
        fails(what, IndexOutOfBoundsException.class, call);
    }

    static void tooEarly(String what, Call call) {
        fails(what, IllegalStateException.class, call);
    }

    static void end() {
        System.out.println(asked + " answers looked at, " + wrong + " wrong");
        if (wrong > 0 || asked == 0) {
            System.exit(1);
        }
    }

    private static void tell(String what, String got, String want) {
        wrong++;
        System.out.println(what + ": " + got + ", due is " + want);
    }
}
