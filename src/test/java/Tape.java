/** What goes over the tape to a ManyOut, in one call. */
final class Tape {
    private Tape() {
    }

    static boolean send(ManyOut x, int... letters) {
        Check.tape(x, letters);
        return x.send();
    }

    static long distance(ManyOut x, int... letters) {
        Check.tape(x, letters);
        return x.distance();
    }

    static long ahead(ManyOut x, int... letters) {
        Check.tape(x, letters);
        return x.ahead();
    }

    /** The image with these bytes ahead of its last one. */
    static int[] image(int... ahead) {
        int[] all = java.util.Arrays.copyOf(ahead, ahead.length + 1);
        int c = 51;
        for (int b : ahead) {
            c = (7 * c + (b & 255)) % 253;
        }
        all[ahead.length] = c;
        return all;
    }

    static boolean on(ManyOut x, int... bytes) {
        Check.tape(x, bytes);
        return x.on();
    }
}
