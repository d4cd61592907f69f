/** Terms III: led tables, sums, codes, what is put ahead, senders, slips, images. */
final class LedSentences {
    /** A table whose leading has not come to rest at 200 steps. */
    static final String LONG = "house 2 5 4;row 84 77 -51 9 -85;row -46 -90 -8 -56 -60;"
        + "row -87 -89 84 96 -56;row 20 1 36 81 58;";
    private final Sentences t;

    LedSentences(Sentences t) {
        this.t = t;
    }

    void all() {
        t.from("A LED table is THE TABLE at first");
        atFirst();
        steps();
        rests();
        leads();
        undoing();
        sums();
        apart();
        code();
        putAhead();
        canNotBe();
        worth();
        chosen();
        draws();
        slips();
        image();
        taken();
        constants();
    }

    private void atFirst() {
        t.say("A LED table is THE TABLE at first, THE LEADER the table (SENDERS by SENDERS) with 1 where a column meets "
            + "its own row, else 0.");
        ManyOut x = Check.with("house 2 5 2; row 1 2 3 4 5; row 9 8 7 6 5;");
        for (int s = 0; s < 5; s++) {
            t.due("led 0 " + s, x.table(0, s, true), s + 1);
            t.due("led 1 " + s, x.table(1, s, true), 9 - s);
            for (int k = 0; k < 5; k++) {
                t.due("leader " + k + " " + s, x.leader(k, s), k == s ? 1 : 0);
            }
        }
        x.lead(9);
        Check.house(x, "house 2 5 2; row 1 2 3 4 5; row 9 8 7 6 5;");
        for (int s = 0; s < 5; s++) {
            t.due("anew: led 1 " + s, x.table(1, s, true), 9 - s);
            for (int k = 0; k < 5; k++) {
                t.due("anew: leader " + k + " " + s, x.leader(k, s), k == s ? 1 : 0);
            }
        }
    }

    /** The first step of columns of one receiver: i, j and how many times; none when i is NONE. */
    private void step(String row, int senders, int i, int j, int times) {
        ManyOut x = Check.with("house 2 " + senders + " 1; row " + row + ";");
        t.due("steps of " + row, x.lead(1), i == ManyOut.NONE ? 0 : 1);
        t.due("i of " + row, x.step(0, 0), i == ManyOut.NONE ? ManyOut.NOTHING : i);
        t.due("j of " + row, x.step(0, 1), i == ManyOut.NONE ? ManyOut.NOTHING : j);
        t.due("times of " + row, x.step(0, 2), i == ManyOut.NONE ? ManyOut.NOTHING : times);
        for (int s = 0; s < senders; s++) {
            int due = x.table(0, s, false) - (s == i ? times * x.table(0, j, false) : 0);
            t.due("led " + s + " of " + row, x.table(0, s, true), due);
            for (int k = 0; k < senders; k++) {
                t.due("leader " + k + " " + s + " of " + row, x.leader(k, s), k == s ? 1 : s == i && k == j ? -times : 0);
            }
        }
    }

    private void steps() {
        t.say("A STEP: of pairs of unlike columns i, j (by i, then j) the first of which column j is not nothing and the "
            + "whole number nearest to (the product of both, number by number, together / the squares of j together), of "
            + "two like near ones that nearer to 0, is not 0: so many times column j goes from column i, in the LED table "
            + "and in THE LEADER.");
        step("7 5", 2, 0, 1, 1);
        step("5 7", 2, 0, 1, 1);
        step("3 7", 2, 1, 0, 2);
        // 7 / 2 and 9 / 2 lie between two: that nearer to 0.
        step("7 2", 2, 0, 1, 3);
        step("-7 2", 2, 0, 1, -3);
        step("9 2", 2, 0, 1, 4);
        step("9 -2", 2, 0, 1, -4);
        // 1 / 2 is as near to 0 as to 1: then 2 / 1.
        step("1 2", 2, 1, 0, 2);
        step("-1 2", 2, 1, 0, -2);
        step("8 5", 2, 0, 1, 2);
        step("-8 5", 2, 0, 1, -2);
        step("7 7", 2, 0, 1, 1);
        step("0 7", 2, ManyOut.NONE, 0, 0);
        step("7 0", 2, ManyOut.NONE, 0, 0);
        step("0 0", 2, ManyOut.NONE, 0, 0);
        step("5", 1, ManyOut.NONE, 0, 0);
        // By i, then j: (0, 1) comes to nothing, (0, 2) does not; (1, 0) would be next.
        step("4 9 3", 3, 0, 2, 1);
        step("2 9 5", 3, 1, 0, 4);
        step("2 0 9", 3, 2, 0, 4);
        step("0 0 3 7", 4, 3, 2, 2);
        step("99 1", 2, 0, 1, 99);
        step("-99 1", 2, 0, 1, -99);
        ManyOut x = Check.with("house 2 2 2; row 3 1; row 5 -2;");
        // The product is 3 - 10 = -7, the squares of the second 5: -1.4, so -1.
        t.due("with two receivers", x.lead(1), 1);
        t.due("times", x.step(0, 2), -1);
        t.due("3 and 1", x.table(0, 0, true), 4);
        t.due("5 and -2", x.table(1, 0, true), 3);
        t.due("the table stays", x.table(1, 0, false), 5);
    }

    private void rests() {
        t.say("It RESTS, when there is no such pair, or 200 STEPS are done.");
        ManyOut x = Check.with("house 2 2 1; row 7 5;");
        // 2 5, 2 1, 0 1.
        t.due("three steps", x.lead(100), 3);
        t.due("no pair", x.lead(1), 0);
        t.due("done", x.has(7), 3);
        x = Check.with(LONG);
        t.due("the first hundred", x.lead(100), 100);
        t.due("the next 99", x.lead(99), 99);
        t.due("the 200th", x.lead(2), 1);
        t.due("no 201st", x.lead(1), 0);
        t.due("done", x.has(7), 200);
        x.undo();
        t.due("199 are done", x.has(7), 199);
        t.due("the 200th again", x.lead(5), 1);
        t.due("done", x.has(7), 200);
    }

    private void leads() {
        t.say("(THE TABLE times THE LEADER is the LED table.)");
        ManyOut x = Check.with(LONG);
        for (int n = 0; n < 3; n++) {
            x.lead(n == 0 ? 1 : n == 1 ? 49 : 100);
            for (int r = 0; r < 4; r++) {
                long sum = 0;
                for (int k = 0; k < 5; k++) {
                    sum += x.table(r, k, false) * x.leader(k, n + r % 3);
                }
                t.due("receiver " + r, x.table(r, n + r % 3, true), sum);
            }
        }
    }

    private void undoing() {
        t.say("STEPS can be undone and redone, the last 40; a new STEP takes all that could be redone away.");
        ManyOut x = Check.with(LONG);
        x.lead(50);
        long squares = x.squares(true);
        t.due("40 can be undone", x.has(8), 40);
        for (int n = 0; n < 40; n++) {
            t.due("undo " + n, x.undo(), true);
        }
        t.due("no 41st", x.undo(), false);
        t.due("10 are done", x.has(7), 10);
        t.due("40 can be redone", x.has(9), 40);
        long ten = x.squares(true);
        ManyOut y = Check.with(LONG);
        y.lead(10);
        t.due("as after ten", ten, y.squares(true));
        for (int n = 0; n < 40; n++) {
            t.due("redo " + n, x.redo(), true);
        }
        t.due("no 41st", x.redo(), false);
        t.due("50 are done", x.has(7), 50);
        t.due("as after fifty", x.squares(true), squares);
        for (int n = 0; n < 5; n++) {
            x.undo();
        }
        t.due("five can be redone", x.has(9), 5);
        t.due("a new one", x.lead(1), 1);
        t.due("none can be redone", x.has(9), 0);
        t.due("none is redone", x.redo(), false);
        t.due("36 can be undone", x.has(8), 36);
        x.lead(5);
        t.due("40 can be undone", x.has(8), 40);
        t.due("51 are done", x.has(7), 51);
    }

    private void sums() {
        t.say("SUMS of columns of some SENDERS, by whole numbers -m .. m of each, not all 0: the least squares together; "
            + "the first such row of numbers (by the first SENDER's, the least first).");
        ManyOut x = Check.with("house 2 3 1; row 5 7 11;");
        // 7 - 5 = 2, 11 - 7 = 4, 5 + 7 - 11 = 1; with 2: 2 * 5 - 11 = -1 and others.
        t.due("all by 1", x.sums(7, 1, ManyOut.NONE), 1);
        int[] first = {-1, -1, 1};
        for (int k = 0; k < 3; k++) {
            t.due("the first row, " + k, x.sums(7, 1, k), first[k]);
        }
        // By -2 .. 2: -2 * 5 - 2 * 7 + 2 * 11 = -2 is no more; -2 * 5 + 0 + 11 = 1; -2 * 5 + 2 * 7 = 4; ..
        t.due("all by 2", x.sums(7, 2, ManyOut.NONE), 1);
        int[] second = {-2, 0, 1};
        for (int k = 0; k < 3; k++) {
            t.due("the first row by 2, " + k, x.sums(7, 2, k), second[k]);
        }
        t.due("two of them", x.sums(3, 1, ManyOut.NONE), 4);
        t.due("two of them by 2", x.sums(5, 2, ManyOut.NONE), 1);
        t.due("one of them", x.sums(4, 2, ManyOut.NONE), 121);
        t.due("-1 is the first", x.sums(4, 2, 2), -1);
        x = Check.with("house 2 2 1;");
        t.due("nothing", x.sums(3, 2, ManyOut.NONE), 0);
        t.due("the least numbers", x.sums(3, 2, 0), -2);
        t.due("the least numbers", x.sums(3, 2, 1), -2);
        x = Check.with("house 2 2 2; row 1 0; row 0 1;");
        t.due("-1 0", x.sums(3, 2, 0), -1);
        t.due("-1 0", x.sums(3, 2, 1), 0);
        x = Check.with("house 2 2 1; row 7 0;");
        t.due("0 -2", x.sums(3, 2, 0), 0);
        t.due("0 -2", x.sums(3, 2, 1), -2);
    }

    private void apart() {
        t.say("APART are ROWS of some SENDERS (all others silent): the least squares of SENT for the difference of two "
            + "unlike ones: by numbers of each SENDER that are even, - 2 (LETTERS - 1) .. 2 (LETTERS - 1), not all 0.");
        ManyOut x = new ManyOut();
        for (int letters = 2; letters <= 8; letters++) {
            Check.house(x, "house " + letters + " 2 1; row 7 9;");
            long least = Long.MAX_VALUE;
            for (int a = -2 * (letters - 1); a <= 2 * (letters - 1); a += 2) {
                for (int b = -2 * (letters - 1); b <= 2 * (letters - 1); b += 2) {
                    if (a != 0 || b != 0) {
                        least = Math.min(least, (long) (7 * a + 9 * b) * (7 * a + 9 * b));
                    }
                }
            }
            t.due("both with " + letters, x.apart(3), least);
            t.due("the first with " + letters, x.apart(1), 4 * 49);
            t.due("the second with " + letters, x.apart(2), 4 * 81);
        }
        // 8 times 7 are 7 times 8: only with 8 letters there is 7.
        Check.house(x, "house 8 2 1; row 7 8;");
        t.due("7 of 8", x.apart(3), 4);
        Check.house(x, "house 8 2 1; row 0 8;");
        t.due("a column of nothing", x.apart(3), 0);
        t.due("without it", x.apart(2), 256);
        Check.house(x, "house 8 2 1; row 14 12;");
        t.due("6 times 14 are 7 times 12", x.apart(3), 0);
        Check.house(x, "house 7 2 1; row 16 14;");
        t.due("7 times 16: not with 7 letters", x.apart(3), 16);
        x = Check.with("house 2 3 2; row 1 5 9; row 2 5 -9;");
        t.due("all others silent", x.apart(1), 4 * 5);
        t.due("all others silent", x.apart(2), 4 * 50);
        t.due("all others silent", x.apart(4), 4 * 162);
    }

    private void code() {
        t.say("THE CODE: its least worth is the least squares of SENT for the difference of two WORDS (by numbers; like "
            + "ones too: 0).");
        ManyOut x = Check.with("house 4 2 2; row 3 1; row 0 2; word 3 3; word -3 -3; word 1 3; word -1 1;");
        // 2 0 sends 6 0: 36; 2 2 sends 8 4: 80; -2 -4 sends -10 -8: 164.
        t.due("the least worth", x.code(0), 36);
        Check.house(x, "house 4 2 2; row 3 1; row 0 2; word -1 1; word -3 -3; word 1 3;");
        t.due("the least worth", x.code(0), 80);
        Check.house(x, "house 4 2 2; row 3 1; row 0 2; word -1 1; word 3 3; word -1 1;");
        t.due("like ones", x.code(0), 0);
        Check.house(x, "house 4 2 2; row 1 1; row 1 1; word 1 -1; word 3 -3;");
        t.due("unlike ones that send the same", x.code(0), 0);
        t.say("POWER of a WORD: its letters' squares together.");
        t.due("3 -3", x.code(3), 18);
        Check.house(x, "house 8 5 1; word 1 1 1 1 1; word 7 -7 7 -7 7; word 3 3 3 3 3;");
        t.due("7 -7 7 -7 7", x.code(3), 245);
    }

    private void putAhead() {
        t.say("PUT AHEAD: for a ROW, to each letter 2 times LETTERS times a whole number -1 .. 1 is added, so that the "
            + "squares of what is SENT are least together, of like ones the first row of these numbers (by the first "
            + "SENDER's, the least first);");
        ManyOut x = Check.with("house 3 2 2; row 5 4; row 1 -2;");
        for (int a = -2; a <= 2; a += 2) {
            for (int b = -2; b <= 2; b += 2) {
                long least = Long.MAX_VALUE;
                int[] put = new int[2];
                for (int i = -1; i <= 1; i++) {
                    for (int j = -1; j <= 1; j++) {
                        long first = 5 * (a + 6 * i) + 4 * (b + 6 * j);
                        long second = a + 6 * i - 2 * (b + 6 * j);
                        if (first * first + second * second < least) {
                            least = first * first + second * second;
                            put = new int[] {i, j};
                        }
                    }
                }
                t.due("of " + a + " " + b, Tape.ahead(x, a, b), least);
                t.due("put 0 of " + a + " " + b, x.put(0), put[0]);
                t.due("put 1 of " + a + " " + b, x.put(1), put[1]);
            }
        }
        // Of -9, 7, 23 and -9, 7, 23: 3 times -9 and 23 are -4, which is the least.
        x = Check.with("house 8 2 1; row 3 1;");
        t.due("7 7", Tape.ahead(x, 7, 7), 16);
        t.due("-1: -9", x.put(0), -1);
        t.due("1: 23", x.put(1), 1);
        t.due("1 -3", Tape.ahead(x, 1, -3), 0);
        t.due("0", x.put(0), 0);
        t.due("0", x.put(1), 0);
        x = Check.with("house 2 3 1;");
        t.due("nothing is sent", Tape.ahead(x, 1, 1, 1), 0);
        for (int s = 0; s < 3; s++) {
            t.due("the first row", x.put(s), -1);
        }
        x = Check.with("house 2 2 1; row 0 1;");
        Tape.ahead(x, 1, 1);
        t.due("the first row", x.put(0), -1);
        t.due("0 is nearest", x.put(1), 0);
        // 2 and 4 times -1 or 0 are -2 and 2: the first of both.
        x = Check.with("house 2 2 1; row 1 1;");
        t.due("1 and 1: 2, or -3 and 1", Tape.ahead(x, 1, 1), 4);
        t.due("-3", x.put(0), -1);
        t.due("and 1", x.put(1), 0);
    }

    private void canNotBe() {
        t.say("it CAN'T BE, if they are above limit times 1000.");
        ManyOut x = Check.with("house 2 1 2; row 30; row 10; limit 1;");
        t.due("1000", Tape.ahead(x, 1), 1000);
        t.due("put", x.put(0), 0);
        Check.house(x, "house 2 1 3; row 30; row 10; row 1; limit 1;");
        t.due("1001", Tape.ahead(x, 1), -1);
        t.due("not put", x.put(0), ManyOut.NOTHING);
        Check.house(x, "house 2 1 1; row 0; limit 0;");
        t.due("0", Tape.ahead(x, 1), 0);
        Check.house(x, "house 2 1 1; row 1; limit 0;");
        t.due("1", Tape.ahead(x, 1), -1);
        // 7 times 99 in six receivers: 2881494, within 9999000, but not within 2881000.
        String most = "house 8 1 6;" + "row 99;".repeat(6);
        Check.house(x, most);
        t.due("without a limit", Tape.ahead(x, 7), 2881494);
        Check.house(x, most + "limit 2881;");
        t.due("below it", Tape.ahead(x, 7), -1);
        Check.house(x, most + "limit 2882;");
        t.due("above it", Tape.ahead(x, 7), 2881494);
    }

    private void worth() {
        t.say("WORTH of a SENDER: the SUM of the first RULE whose TEST holds, 0 without.");
        ManyOut x = Check.with("house 2 4 1; row 1 2 3 4; worth 50 - 60 when sender = 1; worth 7 when sender < 2;"
            + "worth 8 when sender < 3;");
        int[] worths = {7, -10, 8, 0};
        for (int s = 0; s < 4; s++) {
            t.due("worth " + s, x.worth(s), worths[s]);
        }
        Check.house(x, "house 2 1 1;");
        t.due("without a rule", x.worth(0), 0);
    }

    private void chosen() {
        t.say("CHOSEN are n SENDERS: of all sets of n that are APART by so much at least those with the most WORTH "
            + "together, of like ones the least bits.");
        ManyOut x = Check.with("house 2 5 5; row 1 0 0 0 0; row 0 2 0 0 0; row 0 0 3 0 0; row 0 0 0 4 0; row 0 0 0 0 5;"
            + "worth 3 when sender = 0; worth 9 when sender = 2; worth 5 when sender = 3; worth 4 when all;");
        // Worths 3 4 9 5 4; apart by 4, 16, 36, 64, 100: of a set by the least of its own.
        int[] most = {4, 12, 14, 30, 31};
        for (int n = 1; n <= 5; n++) {
            t.due("the most worth of " + n, x.chosen(n, 0), most[n - 1]);
        }
        t.due("all of five are 4 apart", x.chosen(5, 4), 31);
        t.due("not 5", x.chosen(5, 5), ManyOut.NONE);
        t.due("four that are 16 apart", x.chosen(4, 16), 30);
        t.due("not 17", x.chosen(4, 17), ManyOut.NONE);
        t.due("one that is 37 apart", x.chosen(1, 37), 8);
        t.due("one that is 64 apart", x.chosen(1, 64), 8);
        t.due("one that is 65 apart", x.chosen(1, 65), 16);
        t.due("two that are 37 apart", x.chosen(2, 37), 24);
        t.due("one that is 100 apart", x.chosen(1, 100), 16);
        t.due("none is 101 apart", x.chosen(1, 101), ManyOut.NONE);
        // Worths 1 5 5 2: 1 and 2 have the most together; of like ones (0 1), (0 2) the least bits.
        Check.house(x, "house 2 4 1; row 1 1 1 1; worth 1 when sender = 0; worth 2 when sender = 3; worth 5 when all;");
        t.due("one of like ones", x.chosen(1, 0), 2);
        t.due("two", x.chosen(2, 0), 6);
        t.due("three", x.chosen(3, 0), 14);
        Check.house(x, "house 2 4 1; row 1 1 1 1; worth 0 - 1 when sender = 0; worth 0 - 7 when all;");
        t.due("below 0", x.chosen(1, 0), 1);
        t.due("of like ones", x.chosen(2, 0), 3);
        t.due("all", x.chosen(4, 0), 15);
    }

    private static long next(long x) {
        return java.math.BigInteger.valueOf(x).multiply(java.math.BigInteger.valueOf(1103515245L))
            .add(java.math.BigInteger.valueOf(12345)).mod(java.math.BigInteger.ONE.shiftLeft(31)).longValue();
    }

    private void draws() {
        t.say("A DRAW of m: x (the seed) becomes (1103515245 x + 12345) mod 2 to the 31; floor(x / 64) mod m.");
        for (int seed : new int[] {0, 1, 2, 63, 64, 12345, 1 << 30, Integer.MAX_VALUE, -1, -64, Integer.MIN_VALUE}) {
            for (int most : new int[] {1, 3, 5000, 9999}) {
                ManyOut x = Check.with("house 2 1 6;");
                x.slips(most, seed);
                long now = seed;
                for (int r = 0; r < 6; r++) {
                    now = next(now);
                    t.due("seed " + seed + " most " + most + " draw " + r, x.heard(r) + most, now / 64 % (2L * most + 1));
                }
            }
        }
    }

    /** A seed whose first draw of three is so. */
    private static int seedOf(int draw) {
        int seed = 0;
        while (next(seed) / 64 % 3 != draw) {
            seed++;
        }
        return seed;
    }

    private void slips() {
        t.say("SLIPS: to each RECEIVER's HEARD a DRAW of (2 most and 1) less most is added (within -32768 .. 32767: beyond "
            + "it is that).");
        int[][] due = {{-32768, -1, -32768}, {-32767, -1, -32768}, {-32766, -1, -32767}, {-32768, 0, -32768},
            {-32768, 1, -32767}, {32767, 1, 32767}, {32766, 1, 32767}, {32765, 1, 32766}, {32767, 0, 32767},
            {32767, -1, 32766}, {0, -1, -1}, {0, 0, 0}, {0, 1, 1}};
        for (int[] d : due) {
            ManyOut x = Check.with("house 2 1 1;");
            Check.hear(x, d[0]);
            x.slips(1, seedOf(d[1] + 1));
            t.due(d[0] + " and " + d[1], x.heard(0), d[2]);
        }
        ManyOut x = Check.with("house 2 1 1;");
        Check.hear(x, 1234);
        x.slips(0, 5);
        t.due("most 0", x.heard(0), 1234);
        long slip = next(7) / 64 % 19999 - 9999;
        x.slips(9999, 7);
        t.due("most 9999", x.heard(0), 1234 + slip);
        x.slips(9999, 7);
        t.due("once more", x.heard(0), 1234 + 2 * slip);
    }

    private void image() {
        t.say("AN IMAGE: HEARD (two bytes each, the higher first, as a short); how many STEPS are done; last a byte: all "
            + "ahead from 51 on, c = (7 c + it) mod 253.");
        ManyOut x = Check.with("house 2 2 6; row 7 5;");
        Check.hear(x, 258, -2, 32767, -32768, 255, -256);
        x.lead(3);
        t.due("bytes", x.image(), 14);
        int[] all = Tape.image(1, 2, 255, 254, 127, 255, 128, 0, 0, 255, 255, 0, 3);
        for (int k = 0; k < 14; k++) {
            t.due("byte " + k, x.octet(k), all[k]);
        }
        x.undo();
        x.image();
        t.due("two steps are done", x.octet(12), 2);
        x = Check.with("house 2 1 1;");
        x.image();
        int c = (7 * 51) % 253;
        c = 7 * c % 253;
        c = 7 * c % 253;
        t.due("from 51 on", x.octet(3), c);
        x = Check.with(LONG);
        x.lead(100);
        x.lead(100);
        x.image();
        t.due("200 steps", x.octet(8), 200);
        t.due("the last byte", x.octet(9), Tape.image(0, 0, 0, 0, 0, 0, 0, 0, 200)[9]);
    }

    private void taken() {
        t.say("It is taken, if it is such, with as many RECEIVERS, and as many STEPS could be made from the beginning.");
        ManyOut x = Check.with("house 2 2 2; row 7 5;");
        t.due("no steps", Tape.on(x, Tape.image(0, 1, 0, 2, 0)), true);
        t.due("three steps", Tape.on(x, Tape.image(0, 1, 0, 2, 3)), true);
        t.due("four steps", Tape.on(x, Tape.image(0, 1, 0, 2, 4)), false);
        t.due("255 steps", Tape.on(x, Tape.image(0, 1, 0, 2, 255)), false);
        t.due("from the beginning", Tape.on(x, Tape.image(0, 1, 0, 2, 1)), true);
        t.due("one receiver", Tape.on(x, Tape.image(0, 1, 0)), false);
        t.due("three receivers", Tape.on(x, Tape.image(0, 1, 0, 2, 0, 3, 0)), false);
        int[] image = Tape.image(0, 1, 0, 2, 3);
        for (int last = 0; last < 256; last++) {
            ManyOut y = Check.with("house 2 2 2; row 7 5;");
            int was = image[5];
            t.due("a last byte of " + last, Tape.on(y, 0, 1, 0, 2, 3, last), last == was);
        }
        t.due("a byte more", Tape.on(x, 0, 1, 0, 2, 3, image[5], 0), false);
        t.due("a byte less", Tape.on(x, 0, 1, 0, 2, 3), false);
        t.due("it", Tape.on(x, image), true);
        x = Check.with(LONG);
        t.due("200 steps", Tape.on(x, Tape.image(0, 0, 0, 0, 0, 0, 0, 0, 200)), true);
        t.due("201 steps", Tape.on(x, Tape.image(0, 0, 0, 0, 0, 0, 0, 0, 201)), false);
    }

    private void constants() {
        t.from("The constants:");
        t.say("The constants: `NONE = -1`: There is none; it is refused.");
        t.due("NONE", ManyOut.NONE, -1);
        t.say("`NOTHING = -1000000000`: Told where a number below 0 may be one.");
        t.due("NOTHING", ManyOut.NOTHING, -1000000000);
    }
}
