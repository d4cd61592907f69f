/** What all calls that only ask would tell of a small object: to see that nothing changed. */
final class State {
    private final ManyOut x;
    private final StringBuilder all = new StringBuilder();

    private State(ManyOut x) {
        this.x = x;
    }

    /** About sixty calls with two senders and two receivers; with what was put ahead, or without. */
    static String of(ManyOut x, boolean withPut) {
        State s = new State(x);
        s.house();
        s.led();
        s.rest(withPut);
        return s.all.toString();
    }

    static String of(ManyOut x) {
        return of(x, true);
    }

    private void add(String name, long number) {
        all.append(name).append(number).append(' ');
    }

    private void house() {
        for (int what = 0; what < 10; what++) {
            add("has", x.has(what));
        }
        for (int s = 0; s < x.has(1); s++) {
            for (int r = 0; r < x.has(2); r++) {
                add("table", x.table(r, s, false));
            }
            for (int w = 0; w < x.has(4); w++) {
                add("word", x.word(w, s));
            }
            add("worth", x.worth(s));
        }
        for (int r = 0; r < x.has(2); r++) {
            add("heard", x.heard(r));
        }
    }

    private void led() {
        for (int s = 0; s < x.has(1); s++) {
            for (int r = 0; r < x.has(2); r++) {
                add("led", x.table(r, s, true));
            }
            for (int t = 0; t < x.has(1); t++) {
                add("leader", x.leader(t, s));
            }
        }
        for (int k = 0; k < x.has(8); k++) {
            add("i", x.step(k, 0));
            add("j", x.step(k, 1));
            add("times", x.step(k, 2));
        }
    }

    private void rest(boolean withPut) {
        add("near", x.near(0));
        add("left", x.left());
        add("apart", x.apart(1));
        add("code", x.code(0));
        add("span", x.span(true));
        for (int s = 0; withPut && s < x.has(1); s++) {
            add("put", x.put(s));
        }
        for (int k = 0; k < 7; k++) {
            add("octet", x.octet(k));
        }
    }
}
