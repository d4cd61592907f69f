/** Counts answers that are not as due, and feeds a ManyOut. */
final class Check {
    private int asked = 0;
    private int wrong = 0;

    void due(String what, long got, long want) {
        asked++;
        if (got != want) {
            wrong++;
            System.out.println(what + " answered " + got + ", due is " + want);
        }
    }

    void due(String what, boolean got, boolean want) {
        due(what, got ? 1 : 0, want ? 1 : 0);
    }

    /** Ends the test's run: with exit code 1, if an answer was wrong. */
    void end() {
        System.out.println(asked + " answers asked for, " + wrong + " wrong");
        if (wrong > 0 || asked == 0) {
            System.exit(1);
        }
    }

    /** Puts just these bytes on the tape. */
    static void tape(ManyOut x, int... bytes) {
        x.end(0);
        for (int k = 0; k < bytes.length; k += 20) {
            int[] five = new int[5];
            for (int i = 0; i < 20; i++) {
                int b = k + i < bytes.length ? bytes[k + i] & 255 : 32;
                five[i / 4] = five[i / 4] << 8 | b;
            }
            x.feed(five[0], five[1], five[2], five[3], five[4]);
        }
        x.end(bytes.length);
    }

    static int[] bytes(String text) {
        return text.chars().toArray();
    }

    static int house(ManyOut x, String text) {
        tape(x, bytes(text));
        return x.house();
    }

    static ManyOut with(String text) {
        ManyOut x = new ManyOut();
        if (house(x, text) == ManyOut.NONE) {
            throw new IllegalStateException("fault " + x.fault(0) + " at " + x.fault(1) + " of " + text);
        }
        return x;
    }

    static boolean hear(ManyOut x, int... heard) {
        int[] bytes = new int[2 * heard.length];
        for (int r = 0; r < heard.length; r++) {
            bytes[2 * r] = heard[r] >> 8;
            bytes[2 * r + 1] = heard[r];
        }
        tape(x, bytes);
        return x.hear();
    }
}
