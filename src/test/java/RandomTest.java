import java.util.Random;

/** Long runs of calls by a seed, on a ManyOut and on a Plain: each answer must be the same. */
public final class RandomTest {
    private static final Check CHECK = new Check();
    private static final int RUNS = 400;

    private final ManyOut x = new ManyOut();
    private final Plain y = new Plain();
    private final Random random;
    private final int run;
    private final int mostRows;
    private int calls = 0;

    private RandomTest(int run, int mostRows) {
        this.run = run;
        this.mostRows = mostRows;
        random = new Random(run);
    }

    private int below(int n) {
        return random.nextInt(n);
    }

    private int between(int least, int most) {
        return least + below(most - least + 1);
    }

    private void due(String call, long got, long want) {
        calls++;
        CHECK.due("run " + run + ", call " + calls + ": " + call, got, want);
    }

    private void due(String call, boolean got, boolean want) {
        due(call, got ? 1 : 0, want ? 1 : 0);
    }

    // ---- the tape

    private void tape(int... bytes) {
        if (below(20) > 0) {
            due("end(0)", x.end(0), y.end(0));
        }
        for (int k = 0; k < bytes.length; k += 20) {
            int[] five = new int[5];
            for (int i = 0; i < 20; i++) {
                int b = k + i < bytes.length ? bytes[k + i] & 255 : below(256);
                five[i / 4] = five[i / 4] << 8 | b;
            }
            due("feed", x.feed(five[0], five[1], five[2], five[3], five[4]), y.feed(five));
        }
        int n = below(30) == 0 ? between(-1, 40) : bytes.length;
        due("end(" + n + ")", x.end(n), y.end(n));
    }

    // ---- houses

    private String blank() {
        return below(12) == 0 ? "\n  " : " ";
    }

    private String maybe() {
        return below(4) == 0 ? blank() : "";
    }

    private String signed(int v) {
        return v < 0 ? "-" + maybe() + -v : "" + v;
    }

    private String part(int deep) {
        switch (below(deep > 0 ? 9 : 6)) {
            case 0: return "sender";
            case 1: return "square";
            case 2: return "peak";
            case 3: case 4: return "" + between(0, 9);
            case 5: return "" + between(0, 9999);
            case 6: return "(" + maybe() + sum(deep - 1) + maybe() + ")";
            case 7: return "min" + maybe() + "(" + sum(deep - 1) + "," + maybe() + sum(deep - 1) + ")";
            default: return "max" + maybe() + "(" + sum(deep - 1) + "," + maybe() + sum(deep - 1) + ")";
        }
    }

    private String product(int deep) {
        StringBuilder text = new StringBuilder(part(deep));
        while (below(3) == 0) {
            text.append(maybe()).append(below(2) == 0 ? "*" : "/").append(maybe()).append(part(deep));
        }
        return text.toString();
    }

    private String sum(int deep) {
        StringBuilder text = new StringBuilder(product(deep));
        while (below(3) == 0) {
            text.append(maybe()).append(below(2) == 0 ? "+" : "-").append(maybe()).append(product(deep));
        }
        return text.toString();
    }

    private String fact(int deep) {
        switch (below(deep > 0 ? 8 : 5)) {
            case 0: return "all";
            case 5: return "not " + fact(deep - 1);
            case 6: case 7: return "[" + maybe() + test(deep - 1) + maybe() + "]";
            default: return sum(deep) + maybe() + "<>=".charAt(below(3)) + maybe() + sum(deep);
        }
    }

    private String test(int deep) {
        StringBuilder text = new StringBuilder(fact(deep));
        while (below(3) == 0) {
            text.append(below(2) == 0 ? " or " : " and ").append(fact(deep));
        }
        return text.toString();
    }

    private String statement(int letters, int senders, int size) {
        StringBuilder text = new StringBuilder();
        int kind = below(10);
        if (kind < 4) {
            text.append("row");
            for (int s = 0; s < senders; s++) {
                text.append(blank()).append(signed(between(-size, size)));
            }
        } else if (kind < 7) {
            text.append("word");
            for (int s = 0; s < senders; s++) {
                text.append(blank()).append(signed(2 * below(letters) - letters + 1));
            }
        } else if (kind < 9) {
            text.append("worth ").append(sum(below(3))).append(" when ").append(test(below(4)));
        } else {
            text.append("limit ").append(below(3) == 0 ? between(0, 9999) : between(0, 20));
        }
        return text.toString();
    }

    private String houseText() {
        int letters;
        int senders;
        do {
            letters = between(2, 8);
            senders = between(1, 5);
        } while (Math.pow(2 * letters - 1, senders) > mostRows);
        int receivers = between(1, 6);
        int size = new int[] {1, 3, 10, 99}[below(4)];
        StringBuilder text = new StringBuilder("house " + letters + " " + senders + " " + receivers + maybe() + ";");
        int most = below(10) == 0 ? 62 : 14;
        for (int n = below(most); n > 0; n--) {
            text.append(maybe()).append(statement(letters, senders, size)).append(maybe()).append(";");
        }
        return text.toString();
    }

    private String spoiled(String text) {
        StringBuilder spoiled = new StringBuilder(text);
        String signs = " \n;;-+*/()[]<>=,0123456789azx\t%A" + (char) 200;
        for (int n = between(1, 2); n > 0; n--) {
            int at = below(spoiled.length());
            switch (below(4)) {
                case 0: spoiled.deleteCharAt(at); break;
                case 1: spoiled.insert(at, signs.charAt(below(signs.length()))); break;
                case 2: spoiled.setCharAt(at, signs.charAt(below(signs.length()))); break;
                default: spoiled.setLength(Math.max(1, at));
            }
        }
        return spoiled.toString();
    }

    private void house() {
        String text = houseText();
        if (below(3) == 0) {
            text = spoiled(text);
        }
        if (text.length() > 1600) {
            return;
        }
        tape(text.chars().toArray());
        due("house() of " + text, x.house(), y.house());
        due("fault(0)", x.fault(0), y.fault(0));
        due("fault(1)", x.fault(1), y.fault(1));
    }

    // ---- what is on the tape for other calls

    private void rowTape() {
        int[] row = new int[Math.max(0, y.has(1) + (below(12) == 0 ? between(-1, 1) : 0))];
        for (int s = 0; s < row.length; s++) {
            row[s] = below(25) == 0 ? between(-9, 9) : 2 * below(Math.max(1, y.has(0))) - y.has(0) + 1;
        }
        tape(row);
    }

    private void heardTape() {
        int[] bytes = new int[Math.max(0, 2 * y.has(2) + (below(12) == 0 ? between(-1, 1) : 0))];
        boolean far = below(5) == 0;
        for (int k = 0; k < bytes.length; k++) {
            bytes[k] = far ? below(256) : k % 2 == 0 ? (k / 2 % 2 == 0 ? 0 : 255) : below(256);
        }
        tape(bytes);
    }

    private void imageTape() {
        int n = Math.max(1, 2 * y.has(2) + 1 + (below(12) == 0 ? between(-1, 1) : 0));
        int[] bytes = new int[n + 1];
        int c = 51;
        for (int k = 0; k < n; k++) {
            bytes[k] = k == n - 1 && below(6) > 0 ? below(5) : below(256);
            c = (7 * c + bytes[k]) % 253;
        }
        bytes[n] = below(12) == 0 ? below(256) : c;
        tape(bytes);
    }

    // ---- calls

    private int sender() {
        return between(-1, y.has(1));
    }

    private int bits() {
        return below(10) == 0 ? between(-1, 33) : below(1 << y.has(1));
    }

    private void tapeCall() {
        switch (below(9)) {
            case 0: heardTape(); due("hear()", x.hear(), y.hear()); break;
            case 1: case 2: rowTape(); due("send()", x.send(), y.send()); break;
            case 3: rowTape(); due("distance()", x.distance(), y.distance()); break;
            case 4: case 5: rowTape(); due("ahead()", x.ahead(), y.ahead()); break;
            case 6: imageTape(); due("on()", x.on(), y.on()); break;
            case 7: {
                int most = below(4) == 0 ? between(-1, 10001) : between(0, 9);
                int seed = random.nextInt();
                due("slips(" + most + ", " + seed + ")", x.slips(most, seed), y.slips(most, seed));
                break;
            }
            default: {
                due("image()", x.image(), y.image());
                for (int k = -1; k < 15; k++) {
                    due("octet(" + k + ")", x.octet(k), y.octet(k));
                }
            }
        }
    }

    private void backCall() {
        int s = sender();
        int k = between(-1, 10);
        int a = between(-8, 8);
        long w = below(6) == 0 ? random.nextLong() : between(-1, 4000);
        switch (below(9)) {
            case 0: due("nearest(" + k + ", " + s + ")", x.nearest(k, s), y.nearest(k, s)); break;
            case 1: due("near(" + k + ")", x.near(k), y.near(k)); break;
            case 2: due("within(" + w + ")", x.within(w), y.within(w)); break;
            case 3: due("cancel(" + s + ")", x.cancel(s), y.cancel(s)); break;
            case 4: due("order(" + s + ")", x.order(s), y.order(s)); break;
            case 5: due("left()", x.left(), y.left()); break;
            case 6: due("least(" + s + ", " + a + ")", x.least(s, a), y.least(s, a)); break;
            case 7: due("share(" + s + ", " + a + ")", x.share(s, a), y.share(s, a)); break;
            default: due("sure(" + s + ")", x.sure(s), y.sure(s));
        }
    }

    private void ledCall() {
        int s = sender();
        int t = sender();
        boolean led = random.nextBoolean();
        int n = below(5) == 0 ? between(-1, 102) : between(1, 4);
        int k = between(-1, 41);
        int w = between(-1, 3);
        String two = "(" + s + ", " + t + ", " + led + ")";
        switch (below(11)) {
            case 0: case 1: due("lead(" + n + ")", x.lead(n), y.lead(n)); break;
            case 2: due("undo()", x.undo(), y.undo()); break;
            case 3: due("redo()", x.redo(), y.redo()); break;
            case 4: due("leader(" + s + ", " + t + ")", x.leader(s, t), y.leader(s, t)); break;
            case 5: due("step(" + k + ", " + w + ")", x.step(k, w), y.step(k, w)); break;
            case 6: due("clash" + two, x.clash(s, t, led), y.clash(s, t, led)); break;
            case 7: due("worst(" + led + ")", x.worst(led), y.worst(led)); break;
            case 8: due("squares(" + led + ")", x.squares(led), y.squares(led)); break;
            case 9: due("table" + two, x.table(s, t, led), y.table(s, t, led)); break;
            default: due("product" + two, x.product(s, t, led), y.product(s, t, led));
        }
    }

    private void sumCall() {
        int s = sender();
        int b = bits();
        int m = between(0, 3);
        int v = between(-1, y.has(4));
        int w = between(-1, y.has(4));
        int n = between(0, 6);
        int what = between(-1, 4);
        boolean most = random.nextBoolean();
        long far = below(3) == 0 ? between(-1, 2000) : 4L * between(0, 30);
        switch (below(13)) {
            case 0: due("sums(" + b + ", " + m + ", " + s + ")", x.sums(b, m, s), y.sums(b, m, s)); break;
            case 1: due("apart(" + b + ")", x.apart(b), y.apart(b)); break;
            case 2: due("word(" + v + ", " + s + ")", x.word(v, s), y.word(v, s)); break;
            case 3: due("code(" + what + ")", x.code(what), y.code(what)); break;
            case 4: due("decode()", x.decode(), y.decode()); break;
            case 5: due("leave(" + what + ")", x.leave(what), y.leave(what)); break;
            case 6: due("behind(" + v + ")", x.behind(v), y.behind(v)); break;
            case 7: due("unlike(" + v + ", " + w + ")", x.unlike(v, w), y.unlike(v, w)); break;
            case 8: due("span(" + most + ")", x.span(most), y.span(most)); break;
            case 9: due("put(" + s + ")", x.put(s), y.put(s)); break;
            case 10: due("worth(" + s + ")", x.worth(s), y.worth(s)); break;
            case 11: due("chosen(" + n + ", " + far + ")", x.chosen(n, far), y.chosen(n, far)); break;
            default: due("heard(" + s + ")", x.heard(s), y.heard(s));
        }
    }

    private void allNumbers() {
        for (int what = -1; what < 11; what++) {
            due("has(" + what + ")", x.has(what), y.has(what));
        }
        for (int s = -1; s <= y.has(1); s++) {
            due("put(" + s + ")", x.put(s), y.put(s));
            due("worth(" + s + ")", x.worth(s), y.worth(s));
            for (int r = -1; r <= y.has(2); r++) {
                due("table(" + r + ", " + s + ", true)", x.table(r, s, true), y.table(r, s, true));
            }
        }
    }

    private void play() {
        if (below(4) > 0) {
            house();
        }
        while (calls < 480) {
            switch (below(20)) {
                case 0: house(); break;
                case 1: allNumbers(); break;
                case 2: case 3: case 4: case 5: case 6: tapeCall(); break;
                case 7: case 8: case 9: case 10: backCall(); break;
                case 11: case 12: case 13: case 14: ledCall(); break;
                default: sumCall();
            }
        }
    }

    public static void main(String[] args) {
        int runs = args.length > 0 ? Integer.parseInt(args[0]) : RUNS;
        int from = args.length > 1 ? Integer.parseInt(args[1]) : 0;
        for (int run = from; run < from + runs; run++) {
            new RandomTest(run, run % 40 == 39 ? 60000 : run % 4 == 3 ? 3000 : 400).play();
        }
        CHECK.end();
    }
}
