/** Promises 31 to 46: what each call tells, what it refuses, and what stays when it does. */
final class SumSentences {
    private static final int NONE = ManyOut.NONE;
    private static final int NOTHING = ManyOut.NOTHING;
    private static final int[] FAR_OUT = {Integer.MIN_VALUE, -1000000000, -32768, -2, Integer.MAX_VALUE};
    private final Sentences t;

    SumSentences(Sentences t) {
        this.t = t;
    }

    void all() {
        sums();
        apart();
        word();
        code();
        decode();
        leave();
        behind();
        unlike();
        span();
        ahead();
        put();
        worth();
        chosen();
        image();
        octet();
        on();
        onRefused();
    }

    private void sums() {
        t.promise(31, "sums");
        t.say("SUMS of columns of THE TABLE, m 1 .. 2, of some SENDERS (bits): the least (k NONE), or the number of the k-th "
            + "SENDER in the first such row (0 of others);");
        ManyOut x = Check.with("house 2 3 2; row 9 1 5; row 0 2 0;");
        t.due("the first and the third", x.sums(5, 1, NONE), 16);
        t.due("the first of them", x.sums(5, 1, 0), -1);
        t.due("the second is none of them", x.sums(5, 1, 1), 0);
        t.due("the third", x.sums(5, 1, 2), 1);
        t.due("by 2", x.sums(5, 2, NONE), 1);
        t.due("by 2, the first", x.sums(5, 2, 0), -1);
        t.due("by 2, the third", x.sums(5, 2, 2), 2);
        t.due("the second alone", x.sums(2, 2, NONE), 5);
        t.due("the second alone", x.sums(2, 2, 1), -1);
        t.due("others", x.sums(2, 2, 2), 0);
        x.lead(1);
        t.due("of the table, not the led one", x.sums(5, 1, NONE), 16);
        x = Check.with("house 2 5 1; row 1 2 4 8 16;");
        t.due("all five by 1", x.sums(31, 1, NONE), 1);
        t.due("all five by 2", x.sums(31, 2, NONE), 0);
        t.due("by -2 .. 2, the first", x.sums(31, 2, 0), -2);
        t.say("NOTHING when something can't be, or there are none.");
        t.due("m 0", x.sums(3, 0, NONE), NOTHING);
        t.due("m 3", x.sums(3, 3, NONE), NOTHING);
        t.due("m -1", x.sums(3, -1, NONE), NOTHING);
        t.due("k 5", x.sums(3, 1, 5), NOTHING);
        t.due("no senders", x.sums(0, 1, NONE), NOTHING);
        t.due("no senders, k 0", x.sums(0, 1, 0), NOTHING);
        t.due("a sixth sender", x.sums(32, 1, NONE), NOTHING);
        t.due("all and a sixth sender", x.sums(63, 1, NONE), NOTHING);
        t.due("senders -1", x.sums(-1, 1, NONE), NOTHING);
        for (int k : FAR_OUT) {
            t.due("senders " + k, x.sums(k, 1, NONE), NOTHING);
            t.due("m " + k, x.sums(1, k, NONE), NOTHING);
            t.due("k " + k, x.sums(1, 1, k), NOTHING);
        }
        t.due("without senders", new ManyOut().sums(1, 1, NONE), NOTHING);
        t.due("without senders", new ManyOut().sums(0, 1, NONE), NOTHING);
    }

    private void apart() {
        t.promise(32, "apart");
        t.say("How far APART ROWS of some SENDERS are;");
        ManyOut x = Check.with("house 3 3 1; row 3 5 11;");
        // Numbers -4, -2, 0, 2, 4: 4 * 3 - 2 * 5 = 2; 2 * 3 alone; 4 * 5 - 2 * 11 = -2; 4 * 3 + 2 * 5 - 2 * 11 = 0.
        long[] due = {-1, 36, 100, 4, 484, 36, 4, 0};
        for (int set = 1; set < 8; set++) {
            t.due("set " + set, x.apart(set), due[set]);
            t.due("set " + set + " once more", x.apart(set), due[set]);
        }
        x.lead(2);
        t.due("of the table, not the led one", x.apart(1), 36);
        Check.house(x, "house 3 3 1; row 3 5 12;");
        t.due("another house", x.apart(4), 576);
        t.say("-1 when something can't be, or there are none.");
        t.due("none", x.apart(0), -1);
        t.due("a fourth sender", x.apart(8), -1);
        t.due("all and a fourth sender", x.apart(15), -1);
        t.due("-1", x.apart(-1), -1);
        for (int set : FAR_OUT) {
            t.due("set " + set, x.apart(set), -1);
        }
        t.due("without senders", new ManyOut().apart(0), -1);
        t.due("without senders", new ManyOut().apart(1), -1);
    }

    private void word() {
        t.promise(33, "word");
        t.say("A WORD's letter of a SENDER;");
        ManyOut x = new ManyOut();
        StringBuilder text = new StringBuilder("house 8 2 1;");
        for (int w = 0; w < 16; w++) {
            text.append("word ").append(w % 8 * 2 - 7).append(' ').append(w / 8 * 2 - 1).append(';');
        }
        t.due("sixteen", Check.house(x, text.toString()), 17);
        for (int w = 0; w < 16; w++) {
            t.due("word " + w + " 0", x.word(w, 0), w % 8 * 2 - 7);
            t.due("word " + w + " 1", x.word(w, 1), w / 8 * 2 - 1);
        }
        t.say("NOTHING when there is none such.");
        t.due("word 16", x.word(16, 0), NOTHING);
        t.due("word -1", x.word(-1, 0), NOTHING);
        t.due("sender 2", x.word(0, 2), NOTHING);
        t.due("sender -1", x.word(0, -1), NOTHING);
        for (int k : FAR_OUT) {
            t.due("word " + k, x.word(k, 0), NOTHING);
            t.due("sender " + k, x.word(0, k), NOTHING);
        }
        Check.house(x, "house 8 2 1; word 7 7;");
        t.due("those of an earlier house", x.word(1, 0), NOTHING);
        t.due("without any", new ManyOut().word(0, 0), NOTHING);
    }

    private void code() {
        t.promise(34, "code");
        t.say("THE CODE: its least worth (what 0), how many pairs have it (1), the first such pair, 100 times the first WORD "
            + "and the second (2), the most POWER of a WORD (3).");
        ManyOut x = Check.with("house 8 1 1; row 3; word 7; word -7; word 1; word -3; word -1; word 5;");
        // Differences of 2: 7 and 5, 1 and -1, -3 and -1.
        t.due("the least worth", x.code(0), 36);
        t.due("pairs", x.code(1), 3);
        t.due("the first pair", x.code(2), 5);
        t.due("the most power", x.code(3), 49);
        Check.house(x, "house 8 1 1; row 3; word 7; word -7; word 1; word -3; word 3;");
        t.due("another least worth", x.code(0), 36);
        t.due("one pair", x.code(1), 1);
        t.due("words 2 and 4", x.code(2), 204);
        Check.house(x, "house 8 1 1; row 3;" + "word 7; word -7; word 1; word -3;".repeat(3) + "word 5; word -5; word -1; word -1;");
        t.due("like ones", x.code(0), 0);
        t.due("thrice four and one", x.code(1), 13);
        t.due("the first pair", x.code(2), 4);
        Check.house(x, "house 2 1 1; row 3; word 1; word -1;");
        t.due("two words", x.code(0), 36);
        t.due("two words", x.code(1), 1);
        t.due("two words", x.code(2), 1);
        t.due("two words", x.code(3), 1);
        Check.house(x, "house 8 5 6;" + "row 99 99 99 99 99;".repeat(6) + "word 7 7 7 7 7; word -7 -7 -7 -7 -7;");
        t.due("the most worth", x.code(0), 6L * 6930 * 6930);
        t.say("-1 with fewer than two WORDS (for 3 without any), or for others.");
        t.due("what 4", x.code(4), -1);
        t.due("what -1", x.code(-1), -1);
        for (int what : FAR_OUT) {
            t.due("what " + what, x.code(what), -1);
        }
        Check.house(x, "house 3 1 1; row 3; word 0;");
        for (int what = 0; what < 5; what++) {
            t.due("one word, what " + what, x.code(what), what == 3 ? 0 : -1);
        }
        Check.house(x, "house 3 1 1; row 3;");
        for (int what = 0; what < 5; what++) {
            t.due("no word, what " + what, x.code(what), -1);
            t.due("no house, what " + what, new ManyOut().code(what), -1);
        }
    }

    private void decode() {
        t.promise(35, "decode");
        t.say("The WORD that is nearest to HEARD by its DISTANCE, the first of like ones;");
        ManyOut x = Check.with("house 4 2 2; row 5 0; row 0 5; word 3 3; word -1 -1; word -1 3; word 3 3;");
        Check.hear(x, 15, 15);
        t.due("like ones: the first", x.decode(), 0);
        Check.hear(x, -5, 15);
        t.due("the third", x.decode(), 2);
        Check.hear(x, -5, 5);
        t.due("as near to both", x.decode(), 1);
        Check.hear(x, -5, 6);
        t.due("nearer to the third", x.decode(), 2);
        Check.hear(x, -5, 4);
        t.due("nearer to the second", x.decode(), 1);
        Check.hear(x, 32767, 32767);
        t.due("far out", x.decode(), 0);
        Check.hear(x, -32768, -32768);
        t.due("far out", x.decode(), 1);
        StringBuilder text = new StringBuilder("house 8 5 1; row 99 1 1 1 1;");
        for (int w = 0; w < 16; w++) {
            text.append("word ").append(w % 8 * 2 - 7).append(" 1 1 1 ").append(w < 8 ? 7 : 5).append(';');
        }
        Check.house(x, text.toString());
        for (int w = 0; w < 16; w++) {
            Check.hear(x, 99 * (w % 8 * 2 - 7) + (w < 8 ? 10 : 8));
            t.due("five senders and sixteen words, " + w, x.decode(), w);
        }
        t.say("NONE without.");
        Check.house(x, "house 2 1 1; row 5;");
        t.due("without words", x.decode(), NONE);
        t.due("without a house", new ManyOut().decode(), NONE);
    }

    private void leave() {
        t.promise(36, "leave");
        t.say("The WORD without which the least worth of all others is greatest, the first of like ones (what 0), that worth "
            + "(1);");
        ManyOut x = Check.with("house 8 1 1; row 1; word 7; word -7; word 1; word 3;");
        // Without 1: 16; without 3: 36; without others: 4.
        t.due("the fourth", x.leave(0), 3);
        t.due("its worth", x.leave(1), 36);
        Check.house(x, "house 8 1 1; row 1; word 7; word 1; word 3; word -7;");
        t.due("the third", x.leave(0), 2);
        Check.house(x, "house 8 1 1; row 1; word 5; word 1; word -3;");
        // Without 1: 64; without the others: 16.
        t.due("three words", x.leave(0), 1);
        t.due("three words", x.leave(1), 64);
        Check.house(x, "house 8 1 1; row 1; word 5; word 7; word -7; word -5;");
        t.due("of like ones the first", x.leave(0), 0);
        t.due("of like ones the first", x.leave(1), 4);
        Check.house(x, "house 8 1 1; row 1; word 5; word 5; word 1;");
        t.due("one of two like ones", x.leave(0), 0);
        t.due("one of two like ones", x.leave(1), 16);
        Check.house(x, "house 8 1 1; row 1;" + "word 5;".repeat(16));
        t.due("sixteen like ones", x.leave(0), 0);
        t.due("sixteen like ones", x.leave(1), 0);
        t.due("the code stays", x.code(1), 120);
        t.say("-1 with fewer than three WORDS, or for others.");
        t.due("what 2", x.leave(2), -1);
        t.due("what -1", x.leave(-1), -1);
        for (int what : FAR_OUT) {
            t.due("what " + what, x.leave(what), -1);
        }
        String[] fewer = {"", "word 5;", "word 5; word 7;"};
        for (String words : fewer) {
            Check.house(x, "house 8 1 1; row 1;" + words);
            t.due("what 0 with " + words, x.leave(0), -1);
            t.due("what 1 with " + words, x.leave(1), -1);
        }
        t.due("without a house", new ManyOut().leave(0), -1);
    }

    private void behind() {
        t.promise(37, "behind");
        t.say("How many ROWS are ahead of a WORD among THE NEAREST;");
        ManyOut x = Check.with("house 4 2 1; row 4 1; word -3 -3; word -3 -1; word 3 3; word 1 1; word 1 1;");
        Check.hear(x, -15);
        int[] due = {0, 1, 15, 10, 10};
        for (int w = 0; w < 5; w++) {
            t.due("word " + w, x.behind(w), due[w]);
        }
        Check.hear(x, -14);
        t.due("as near, but ahead", x.behind(0), 0);
        t.due("as near, but behind", x.behind(1), 1);
        Check.house(x, "house 4 2 1; word -3 -3; word -3 3; word 3 3; word 1 -1;");
        int[] like = {0, 3, 15, 9};
        for (int w = 0; w < 4; w++) {
            t.due("all as near, word " + w, x.behind(w), like[w]);
        }
        t.say("NONE when there is none such.");
        t.due("word 4", x.behind(4), NONE);
        t.due("word -1", x.behind(-1), NONE);
        for (int w : FAR_OUT) {
            t.due("word " + w, x.behind(w), NONE);
        }
        t.due("without any", new ManyOut().behind(0), NONE);
    }

    private void unlike() {
        t.promise(38, "unlike");
        t.say("In how many SENDERS two WORDS are unlike;");
        ManyOut x = Check.with("house 3 5 1; word 0 0 0 0 0; word 2 0 0 0 -2; word 2 2 2 2 2; word 0 0 0 0 0;");
        int[][] due = {{0, 2, 5, 0}, {2, 0, 4, 2}, {5, 4, 0, 5}, {0, 2, 5, 0}};
        for (int v = 0; v < 4; v++) {
            for (int w = 0; w < 4; w++) {
                t.due("words " + v + " " + w, x.unlike(v, w), due[v][w]);
            }
        }
        t.say("NONE when there are none such.");
        t.due("first 4", x.unlike(4, 0), NONE);
        t.due("second 4", x.unlike(0, 4), NONE);
        t.due("first -1", x.unlike(-1, 0), NONE);
        t.due("second -1", x.unlike(0, -1), NONE);
        for (int w : FAR_OUT) {
            t.due("first " + w, x.unlike(w, 0), NONE);
            t.due("second " + w, x.unlike(0, w), NONE);
        }
        t.due("without any", new ManyOut().unlike(0, 0), NONE);
    }

    /** Of all rows the least and the greatest of what ahead() tells, by asking it for each. */
    private void spanOf(ManyOut x, String house, int letters, int senders) {
        Check.house(x, house);
        ManyOut y = Check.with(house);
        long least = Long.MAX_VALUE;
        long most = -1;
        int rows = (int) Math.round(Math.pow(letters, senders));
        for (int k = 0; k < rows; k++) {
            int[] row = new int[senders];
            int rest = k;
            for (int s = senders - 1; s >= 0; s--) {
                row[s] = rest % letters * 2 - letters + 1;
                rest /= letters;
            }
            if (k % 120 == 119) {
                y = Check.with(house);
            }
            long squares = Tape.ahead(y, row);
            least = Math.min(least, squares);
            most = Math.max(most, squares);
        }
        t.due("the least of " + house, x.span(false), least);
        t.due("the greatest of " + house, x.span(true), most);
        t.due("the least of " + house + " once more", x.span(false), least);
        t.due("the greatest of " + house + " once more", x.span(true), most);
    }

    private void span() {
        t.promise(39, "span");
        t.say("Of all ROWS the least (most false), the greatest squares that ahead() would tell (not asking for limit);");
        ManyOut x = new ManyOut();
        spanOf(x, "house 2 1 1; row 7;", 2, 1);
        spanOf(x, "house 8 1 2; row 7; row 3;", 8, 1);
        spanOf(x, "house 2 2 1; row 7 4;", 2, 2);
        spanOf(x, "house 3 2 2; row 7 4; row 1 -9;", 3, 2);
        spanOf(x, "house 4 2 2; row 7 4; row 1 -9;", 4, 2);
        spanOf(x, "house 5 2 1; row 9 1;", 5, 2);
        spanOf(x, "house 4 3 2; row 7 4 -2; row 1 -9 5;", 4, 3);
        spanOf(x, "house 3 3 3; row 9 8 7; row -1 5 5; row 2 0 6;", 3, 3);
        spanOf(x, "house 6 3 1; row 9 8 7;", 6, 3);
        spanOf(x, "house 2 5 2; row 5 9 2 -7 1; row 1 -1 4 6 8;", 2, 5);
        spanOf(x, "house 3 4 3; row 3 9 2 -7; row 1 -1 4 6; row 0 0 5 1;", 3, 4);
        spanOf(x, "house 2 2 2;", 2, 2);
        // 7 times 5 less 5 times 7 would be nothing, but numbers go up to 5 alone.
        spanOf(x, "house 2 2 1; row 5 7;", 2, 2);
        spanOf(x, "house 4 2 3; row 99 98; row 97 -99; row 5 60;", 4, 2);
        spanOf(x, "house 4 4 6; row 1 2 3 4; row 4 3 2 1; row 1 -1 1 -1; row 2 2 -2 -2; row 0 1 0 5; row 7 0 0 0;", 4, 4);
        spanOf(x, "house 2 5 6; row 9 8 7 6 5; row 1 1 1 1 1; row 2 -3 4 -5 6; row 3 3 3 -3 0; row 0 1 2 3 4; row 8 0 8 0 8;", 2, 5);
        Check.house(x, "house 8 1 6;" + "row 99;".repeat(6) + "limit 0;");
        t.due("not asking for the limit", x.span(true), 2881494);
        t.due("not asking for the limit", x.span(false), 6 * 9801);
        t.say("-1 without SENDERS.");
        t.due("the least", new ManyOut().span(false), -1);
        t.due("the greatest", new ManyOut().span(true), -1);
    }

    private void ahead() {
        t.promise(40, "ahead");
        t.say("PUT AHEAD of the tape (it goes), a ROW as for send(): the squares;");
        ManyOut x = CallSentences.used();
        String before = State.of(x, false);
        // 2 2 sends 24 10; -4 2: -18 -8; 2 -4: -6 -2, which is the least: 40.
        t.due("2 2", Tape.ahead(x, 2, 2), 40);
        t.due("the tape went", x.end(1), false);
        t.due("0 0", Tape.ahead(x, 0, 0), 0);
        t.same("all but what was put stays", State.of(x, false), before);
        t.say("-1 when it is none such, or CAN'T BE.");
        int[][] none = {{}, {2}, {2, 2, 2}, {1, 0}, {0, 1}, {4, 0}, {0, -4}, {127, 0}, {0, -128}};
        for (int[] row : none) {
            t.due("no row", Tape.ahead(x, row), -1);
            t.due("the tape went", x.end(1), false);
        }
        t.same("all but what was put stays", State.of(x, false), before);
        Check.house(x, "house 2 1 1; row 99; limit 9;");
        t.due("9801 can't be", Tape.ahead(x, 1), -1);
        t.due("the tape went", x.end(1), false);
        Check.house(x, "house 2 1 1; row 99; limit 10;");
        t.due("9801 can be", Tape.ahead(x, 1), 9801);
        t.due("without senders", new ManyOut().ahead(), -1);
        t.due("without senders", Tape.ahead(new ManyOut(), 0), -1);
    }

    private void put() {
        t.promise(41, "put");
        t.say("The whole number of a SENDER by the latest ahead();");
        ManyOut x = Check.with("house 3 2 2; row 7 5; row 3 2; limit 1;");
        Tape.ahead(x, 2, 2);
        t.due("put 0", x.put(0), 0);
        t.due("put 1", x.put(1), -1);
        Tape.ahead(x, -2, -2);
        t.due("the latest, put 1", x.put(1), 1);
        Check.hear(x, 1, 1);
        x.lead(1);
        x.span(true);
        x.span(false);
        Tape.send(x, 2, 2);
        Tape.distance(x, 2, 2);
        Tape.on(x, Tape.image(0, 0, 0, 0, 0));
        Check.house(x, "house");
        t.due("it stays, put 0", x.put(0), 0);
        t.due("it stays, put 1", x.put(1), 1);
        t.say("NOTHING when there is none such, or that was -1, or ahead of any.");
        t.due("sender 2", x.put(2), NOTHING);
        t.due("sender -1", x.put(-1), NOTHING);
        for (int s : FAR_OUT) {
            t.due("sender " + s, x.put(s), NOTHING);
        }
        Tape.ahead(x, 1, 1);
        t.due("that was -1: no row", x.put(0), NOTHING);
        t.due("that was -1: no row", x.put(1), NOTHING);
        Tape.ahead(x, 2, 2);
        t.due("put again", x.put(1), -1);
        Check.house(x, "house 2 1 1; row 99; limit 9;");
        t.due("ahead of any in this house", x.put(0), NOTHING);
        Tape.ahead(x, 1);
        t.due("that was -1: can't be", x.put(0), NOTHING);
        t.due("ahead of any", Check.with("house 2 1 1;").put(0), NOTHING);
        t.due("without senders", new ManyOut().put(0), NOTHING);
    }

    private void worth() {
        t.promise(42, "worth");
        t.say("WORTH of a SENDER;");
        ManyOut x = Check.with("house 2 5 1; row 1 2 3 4 5; worth sender * 10 - square when peak > 2;");
        int[] due = {0, 0, 11, 14, 15};
        for (int s = 0; s < 5; s++) {
            t.due("sender " + s, x.worth(s), due[s]);
        }
        t.say("NOTHING when there is none such.");
        t.due("sender 5", x.worth(5), NOTHING);
        t.due("sender -1", x.worth(-1), NOTHING);
        for (int s : FAR_OUT) {
            t.due("sender " + s, x.worth(s), NOTHING);
        }
        t.due("without senders", new ManyOut().worth(0), NOTHING);
    }

    private void chosen() {
        t.promise(43, "chosen");
        t.say("CHOSEN, n SENDERS (1 .. 5) that are APART by so much at least (0 at least): as bits;");
        ManyOut x = Check.with("house 2 5 5; row 3 0 0 0 0; row 0 3 0 0 0; row 0 0 4 0 0; row 0 0 0 4 0; row 0 0 0 0 5;"
            + "worth 10 - sender when all;");
        int[] most = {1, 3, 7, 15, 31};
        int[] far = {4, 12, 28, NONE, NONE};
        for (int n = 1; n <= 5; n++) {
            t.due(n + " senders", x.chosen(n, 0), most[n - 1]);
            t.due(n + " senders 36 apart", x.chosen(n, 36), most[n - 1]);
            t.due(n + " senders 37 apart", x.chosen(n, 37), far[n - 1]);
            t.due(n + " senders 64 apart", x.chosen(n, 64), far[n - 1]);
        }
        t.due("one, 65 apart", x.chosen(1, 65), 16);
        t.due("one, 100 apart", x.chosen(1, 100), 16);
        t.say("NONE when there are none such, or something can't be.");
        t.due("one, 101 apart", x.chosen(1, 101), NONE);
        t.due("two, 65 apart", x.chosen(2, 65), NONE);
        t.due("one, far out", x.chosen(1, Long.MAX_VALUE), NONE);
        t.due("n 0", x.chosen(0, 0), NONE);
        t.due("n 6", x.chosen(6, 0), NONE);
        t.due("n -1", x.chosen(-1, 0), NONE);
        t.due("apart -1", x.chosen(1, -1), NONE);
        t.due("apart far below", x.chosen(1, Long.MIN_VALUE), NONE);
        for (int n : FAR_OUT) {
            t.due("n " + n, x.chosen(n, 0), NONE);
        }
        Check.house(x, "house 2 3 1; row 1 2 4;");
        t.due("four of three", x.chosen(4, 0), NONE);
        t.due("three of three", x.chosen(3, 0), 7);
        t.due("without senders", new ManyOut().chosen(1, 0), NONE);
    }

    private void image() {
        t.promise(44, "image");
        t.say("AN IMAGE is written: how many bytes.");
        t.due("without a house", new ManyOut().image(), 2);
        for (int receivers = 1; receivers <= 6; receivers++) {
            ManyOut x = Check.with("house 2 1 " + receivers + "; row 5;");
            t.due(receivers + " receivers", x.image(), 2 * receivers + 2);
        }
        ManyOut x = CallSentences.used();
        String before = State.of(x);
        x.image();
        t.same("all stays", State.of(x), before);
    }

    private void octet() {
        t.promise(45, "octet");
        t.say("Byte k of the latest image();");
        ManyOut x = Check.with("house 2 1 6;");
        Check.hear(x, 1, 2, -1, 256, 5, -2);
        x.image();
        int[] first = Tape.image(0, 1, 0, 2, 255, 255, 1, 0, 0, 5, 255, 254, 0);
        for (int k = 0; k < 14; k++) {
            t.due("byte " + k, x.octet(k), first[k]);
        }
        Check.hear(x, 9, 9, 9, 9, 9, 9);
        t.due("it stays when another is heard", x.octet(1), 1);
        Check.house(x, "house 2 1 1;");
        t.due("it stays with another house", x.octet(13), first[13]);
        Check.hear(x, 7);
        x.image();
        int[] second = Tape.image(0, 7, 0);
        for (int k = 0; k < 4; k++) {
            t.due("the latest, byte " + k, x.octet(k), second[k]);
        }
        t.say("NONE when there is none such.");
        t.due("byte 4", x.octet(4), NONE);
        t.due("byte 13", x.octet(13), NONE);
        t.due("byte -1", x.octet(-1), NONE);
        for (int k : FAR_OUT) {
            t.due("byte " + k, x.octet(k), NONE);
        }
        t.due("ahead of any", new ManyOut().octet(0), NONE);
        t.due("ahead of any", Check.with("house 2 1 1;").octet(0), NONE);
        x = Check.with("house 2 1 6;");
        x.image();
        t.due("byte 14", x.octet(14), NONE);
    }

    private void on() {
        t.promise(46, "on");
        t.say("The tape (it goes) is AN IMAGE: true, HEARD is as it tells, THE TABLE is LED by so many STEPS (the last 40 can "
            + "be undone, none redone);");
        ManyOut x = Check.with("house 2 2 2; row 7 5; row 3 2;");
        t.due("near ahead of it", x.near(0), 5);
        t.due("on", Tape.on(x, Tape.image(1, 2, 255, 254, 2)), true);
        t.due("the tape went", x.end(1), false);
        t.due("heard 0", x.heard(0), 258);
        t.due("heard 1", x.heard(1), -2);
        t.due("near", x.near(0), 246L * 246 + 7 * 7);
        int[] led = {2, 1, 1, 0};
        for (int k = 0; k < 4; k++) {
            t.due("led " + k, x.table(k % 2, k / 2, true), led[k]);
        }
        t.due("done", x.has(7), 2);
        t.due("undone", x.has(8), 2);
        t.due("the second step", x.step(1, 2), 2);
        x.undo();
        t.due("one can be redone", x.has(9), 1);
        t.due("on anew", Tape.on(x, Tape.image(0, 0, 0, 0, 1)), true);
        t.due("none redone", x.has(9), 0);
        t.due("none redone", x.redo(), false);
        t.due("one done", x.has(7), 1);
        t.due("from the table on", x.table(0, 0, true), 2);
        t.due("leader", x.leader(1, 0), -1);
        t.due("on with none", Tape.on(x, Tape.image(0, 0, 0, 0, 0)), true);
        t.due("none done", x.has(7), 0);
        t.due("as the table", x.table(0, 0, true), 7);
        t.due("leader", x.leader(1, 0), 0);
        x = Check.with(LedSentences.LONG);
        for (int steps : new int[] {39, 40, 41, 199, 200}) {
            ManyOut y = Check.with(LedSentences.LONG);
            y.lead(Math.min(100, steps));
            if (steps > 100) {
                y.lead(steps - 100);
            }
            t.due(steps + " steps", Tape.on(x, Tape.image(0, 0, 0, 0, 0, 0, 0, 0, steps)), true);
            t.due("done", x.has(7), steps);
            t.due("undone", x.has(8), Math.min(40, steps));
            t.due("squares", x.squares(true), y.squares(true));
            t.due("leader", x.leader(2, 3), y.leader(2, 3));
            t.due("the oldest step", x.step(0, 0), y.step(0, 0));
            t.due("the latest step", x.step(Math.min(40, steps) - 1, 2), y.step(Math.min(40, steps) - 1, 2));
        }
        for (int n = 0; n < 40; n++) {
            t.due("undo " + n, x.undo(), true);
        }
        t.due("no 41st", x.undo(), false);
        x = new ManyOut();
        t.due("without a house", Tape.on(x, Tape.image(0)), true);
        t.due("without a house, a step", Tape.on(x, Tape.image(1)), false);
        // What an image tells comes back.
        x = CallSentences.used();
        x.undo();
        x.image();
        int[] bytes = new int[6];
        for (int k = 0; k < 6; k++) {
            bytes[k] = x.octet(k);
        }
        x.lead(3);
        Check.hear(x, 0, 0);
        t.due("back", Tape.on(x, bytes), true);
        t.due("heard", x.heard(0), 11);
        t.due("heard", x.heard(1), -4);
        t.due("done", x.has(7), 1);
    }

    private void onRefused() {
        t.say("false when it is none (all stays).");
        int[][] none = {{}, {0}, {1, 2, 3, 4, 5}, {1, 2, 3, 4, 5, 6}, Tape.image(1, 2, 3), Tape.image(1, 2, 3, 4, 5, 6, 0),
            Tape.image(1, 2, 3, 4), Tape.image(1, 2, 3, 4, 4), Tape.image(1, 2, 3, 4, 200), Tape.image(1, 2, 3, 4, 255)};
        for (int[] image : none) {
            ManyOut x = CallSentences.used();
            String before = State.of(x);
            t.due("none", Tape.on(x, image), false);
            t.due("the tape went", x.end(1), false);
            t.same("all stays", State.of(x), before);
            t.due("it can be redone", x.redo(), true);
        }
    }
}
