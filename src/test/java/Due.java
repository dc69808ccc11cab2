/** Compares answers with those that are due, prints the wrong ones, and ends a test. */
final class Due {
    private int asked;
    private int wrong;

    void is(String call, long got, long want) {
        asked++;
        if (got != want) {
            wrong++;
            System.out.println(call + " answered " + got + ", due is " + want);
        }
    }

    void is(String call, byte[] got, byte[] want) {
        asked++;
        if (!java.util.Arrays.equals(got, want)) {
            wrong++;
            System.out.println(call + " answered " + Bytes.hex(got) + ", due is " + Bytes.hex(want));
        }
    }

    void is(String call, String got, String want) {
        asked++;
        if (!got.equals(want)) {
            wrong++;
            System.out.println(call + " answered " + got + ", due is " + want);
        }
    }

    void holds(String what, boolean so) {
        asked++;
        if (!so) {
            wrong++;
            System.out.println("does not hold: " + what);
        }
    }

    boolean hasFailed() {
        return wrong != 0;
    }

    /** A test that asks nothing shows nothing. */
    boolean isRight() {
        return wrong == 0 && asked != 0;
    }

    void end() {
        if (!isRight()) {
            System.out.println(wrong + " of " + asked + " answers are not as due");
            System.exit(1);
        }
        System.out.println(asked + " answers are as due");
    }
}
