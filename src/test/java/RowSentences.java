/** Terms II: rows of letters, what is heard, told back. */
final class RowSentences {
    private final Sentences t;

    RowSentences(Sentences t) {
        this.t = t;
    }

    void all() {
        t.from("LETTERS are the whole numbers");
        letters();
        order();
        sent();
        heard();
        distance();
        nearest();
        turns();
        cancelling();
        takenAway();
        weights();
        shares();
    }

    private void letters() {
        t.say("LETTERS are the whole numbers - (LETTERS - 1), and on by 2, up to LETTERS - 1.");
        ManyOut x = new ManyOut();
        for (int letters = 2; letters <= 8; letters++) {
            Check.house(x, "house " + letters + " 1 1; row 1;");
            for (int a = -9; a <= 9; a++) {
                boolean is = Math.abs(a) <= letters - 1 && (a + letters) % 2 != 0;
                t.due(a + " of " + letters, Tape.send(x, a), is);
            }
            x = new ManyOut();
        }
    }

    private void order() {
        t.say("A ROW (of letters) has one for each SENDER; ROWS are in the order of their letters, the first SENDER's "
            + "first, the least first.");
        ManyOut x = Check.with("house 2 3 1;");
        t.due("two letters", Tape.send(x, 1, 1), false);
        t.due("four letters", Tape.send(x, 1, 1, 1, 1), false);
        t.due("three letters", Tape.send(x, 1, 1, 1), true);
        for (int k = 0; k < 8; k++) {
            for (int s = 0; s < 3; s++) {
                t.due("row " + k + " sender " + s, x.nearest(k, s), (k >> 2 - s & 1) == 1 ? 1 : -1);
            }
        }
        x = Check.with("house 3 2 1;");
        for (int k = 0; k < 9; k++) {
            t.due("row " + k + " sender 0", x.nearest(k, 0), 2 * (k / 3) - 2);
            t.due("row " + k + " sender 1", x.nearest(k, 1), 2 * (k % 3) - 2);
        }
    }

    private void sent() {
        t.say("It is SENT: RECEIVER by RECEIVER THE TABLE's numbers times its letters, together.");
        ManyOut x = Check.with("house 4 3 4; row 2 3 5; row -1 10 0; row 0 0 99;");
        Tape.send(x, 3, -1, -3);
        int[] heard = {6 - 3 - 15, -3 - 10, -297, 0};
        for (int r = 0; r < 4; r++) {
            t.due("receiver " + r, x.heard(r), heard[r]);
        }
        x.lead(5);
        Tape.send(x, 3, -1, -3);
        t.due("by the table, not the led one", x.heard(0), heard[0]);
        x = Check.with("house 8 5 6;" + "row -99 -99 -99 -99 -99;".repeat(6));
        Tape.send(x, 7, 7, 7, 7, 7);
        for (int r = 0; r < 6; r++) {
            t.due("the least", x.heard(r), -3465);
        }
    }

    private void heard() {
        t.say("HEARD is a number for each RECEIVER (0 at first).");
        ManyOut x = Check.with("house 2 1 6; row 5;");
        for (int r = 0; r < 6; r++) {
            t.due("at first " + r, x.heard(r), 0);
        }
        t.due("a seventh", x.heard(6), ManyOut.NOTHING);
        t.due("0 is near", x.near(0), 25);
    }

    private void distance() {
        t.say("DISTANCE of a ROW: the squares of HEARD less what is SENT, together.");
        ManyOut x = Check.with("house 2 2 3; row 2 1; row 3 -4;");
        Check.hear(x, 10, -10, 6);
        t.due("1 1", Tape.distance(x, 1, 1), 7 * 7 + 9 * 9 + 36);
        t.due("1 -1", Tape.distance(x, 1, -1), 9 * 9 + 17 * 17 + 36);
        t.due("-1 1", Tape.distance(x, -1, 1), 11 * 11 + 3 * 3 + 36);
        t.due("-1 -1", Tape.distance(x, -1, -1), 13 * 13 + 11 * 11 + 36);
        x = Check.with("house 8 5 6;" + "row 99 99 99 99 99;".repeat(6));
        Check.hear(x, -32768, -32768, -32768, -32768, -32768, -32768);
        t.due("the most there is", Tape.distance(x, 7, 7, 7, 7, 7), 6L * 36233 * 36233);
        t.due("the nearest then", x.near(0), 6L * 29303 * 29303);
        t.due("the least with the other letter", x.least(0, 7), 6L * (32768 + 99 * (7 - 28)) * (32768 + 99 * (7 - 28)));
    }

    private void nearest() {
        t.say("THE NEAREST: ROWS by DISTANCE, of like ones by their order.");
        ManyOut x = Check.with("house 3 2 1; row 1 1;");
        Check.hear(x, 1);
        int[][] rows = {{-2, 2}, {0, 0}, {0, 2}, {2, -2}, {2, 0}, {-2, 0}, {0, -2}, {2, 2}, {-2, -2}};
        long[] far = {1, 1, 1, 1, 1, 9, 9, 9, 25};
        for (int k = 0; k < 9; k++) {
            t.due("distance " + k, x.near(k), far[k]);
            t.due("first letter " + k, x.nearest(k, 0), rows[k][0]);
            t.due("second letter " + k, x.nearest(k, 1), rows[k][1]);
        }
        x = Check.with("house 8 2 1; row 8 1;");
        // Sent are all odd numbers -63 .. 63 but for some: row by row they grow, so the nearest alternate.
        Check.hear(x, 63);
        for (int k = 0; k < 10; k++) {
            t.due("the " + k + "th from the end", x.near(k), 4L * k * k);
        }
        Check.hear(x, 62);
        t.due("two as near: 63", x.nearest(1, 1), 7);
        t.due("two as near: 61", x.nearest(0, 1), 5);
    }

    private void turns() {
        t.say("BY CANCELLING: SENDERS by the squares of their columns, the greatest first, of like ones the first;");
        ManyOut x = Check.with("house 2 5 2; row 1 3 0 -5 4; row 2 4 0 0 -3;");
        int[] turns = {1, 3, 4, 0, 2};
        for (int k = 0; k < 5; k++) {
            t.due("turn " + k, x.order(k), turns[k]);
        }
        x = Check.with("house 2 5 1; row 1 2 3 4 5;");
        for (int k = 0; k < 5; k++) {
            t.due("turn " + k, x.order(k), 4 - k);
        }
        x = Check.with("house 2 5 1;");
        for (int k = 0; k < 5; k++) {
            t.due("turn " + k + " of like ones", x.order(k), k);
        }
    }

    private void cancelling() {
        t.say("one after the other takes the LETTER by which the squares of what is left of HEARD less column times "
            + "LETTER are least together, of like ones the least;");
        ManyOut x = Check.with("house 4 2 1; row 10 3;");
        // 25 lies between 10 and 30: 30 is nearer; -5 is left: -3 is nearer than -9.
        Check.hear(x, 25);
        t.due("the first", x.cancel(0), 3);
        t.due("the second", x.cancel(1), -1);
        // 20 is as near to 10 as to 30.
        Check.hear(x, 20);
        t.due("of like ones the least", x.cancel(0), 1);
        Check.hear(x, -20);
        t.due("of like ones the least", x.cancel(0), -3);
        Check.hear(x, 32767);
        t.due("the greatest", x.cancel(0), 3);
        Check.hear(x, -32768);
        t.due("the least", x.cancel(0), -3);
        x = Check.with("house 5 1 2; row 1; row -1;");
        Check.hear(x, 4, 4);
        t.due("together: 0", x.cancel(0), 0);
        Check.hear(x, 4, 0);
        t.due("together: 2 would be 2", x.cancel(0), 2);
        x = Check.with("house 8 2 1;");
        t.due("a column of nothing", x.cancel(1), -7);
    }

    private void takenAway() {
        t.say("that is taken from what is left.");
        ManyOut x = Check.with("house 2 3 1; row 1 2 4;");
        for (int sum = -7; sum <= 7; sum += 2) {
            Check.hear(x, sum);
            t.due("left of " + sum, x.left(), 0);
            t.due("4 of " + sum, x.cancel(2), sum > 0 ? 1 : -1);
            int rest = sum > 0 ? sum - 4 : sum + 4;
            t.due("2 of " + sum, x.cancel(1), rest > 0 ? 1 : -1);
            int last = rest > 0 ? rest - 2 : rest + 2;
            t.due("1 of " + sum, x.cancel(0), last > 0 ? 1 : -1);
        }
        x = Check.with("house 4 2 1; row 7 5;");
        Check.hear(x, 5);
        // 7 is nearest to 5: -2 is left, of which -5 takes 3: so 2 is sent.
        t.due("7", x.cancel(0), 1);
        t.due("-5", x.cancel(1), -1);
        t.due("left", x.left(), 9);
    }

    private void weights() {
        t.say("SHARES: each ROW weighs floor(10 to the 9 / (1 and its DISTANCE)).");
        ManyOut x = Check.with("house 2 1 1; row 1;");
        // 10 to the 9 and 10 to the 9 / 5: of 1.2 times 10 to the 9.
        Check.hear(x, 1);
        t.due("distances 0 and 4", x.share(0, 1), 833);
        t.due("distances 0 and 4", x.share(0, -1), 166);
        // 10 to the 9 / 2 each.
        Check.hear(x, 0);
        t.due("distances 1 and 1", x.share(0, 1), 500);
        // 18257 squared and 1 is just below 10 to the 9 / 3 and weighs 3; 18259 squared is above and weighs 2.
        Check.hear(x, 18258);
        t.due("floors of 3 and 2", x.share(0, 1), 600);
        t.due("floors of 3 and 2", x.share(0, -1), 400);
        // 22360 squared and 1 is just below 10 to the 9 / 2 and weighs 2; 22362 squared is above and weighs 1.
        Check.hear(x, 22361);
        t.due("floors of 2 and 1", x.share(0, 1), 666);
        t.due("floors of 2 and 1", x.share(0, -1), 333);
        // 31622 squared and 1 is 999950885: it weighs 1; 31624 squared is above 10 to the 9: nothing.
        Check.hear(x, 31623);
        t.due("floors of 1 and 0", x.share(0, 1), 1000);
        t.due("floors of 1 and 0", x.share(0, -1), 0);
        x = Check.with("house 2 1 4; row 0;");
        Check.hear(x, 31622, 221, 15, 7);
        t.due("a distance of 10 to the 9 less 1", Tape.distance(x, 1), 999999999L);
        t.due("weighs 1", x.share(0, 1), 500);
        Check.hear(x, 31616, 640, 112, 80);
        t.due("a distance of 10 to the 9", Tape.distance(x, 1), 1000000000L);
        t.due("weighs nothing", x.share(0, 1), 0);
    }

    private void shares() {
        t.say("THE SHARE of a LETTER of a SENDER: floor(1000 times all that ROWS with it weigh / all that ROWS weigh), "
            + "0 when these weigh nothing.");
        ManyOut x = Check.with("house 3 2 1; row 0 1;");
        Check.hear(x, 2);
        // Distances 16, 4, 0 thrice: weights 58823529, 200000000, 1000000000.
        long all = 58823529L + 200000000L + 1000000000L;
        t.due("2 of the second", x.share(1, 2), 1000 * 1000000000L / all);
        t.due("0 of the second", x.share(1, 0), 1000 * 200000000L / all);
        t.due("-2 of the second", x.share(1, -2), 1000 * 58823529L / all);
        t.due("a third of all", x.share(0, -2), 333);
        t.due("a third of all", x.share(0, 2), 333);
        Check.hear(x, 32767);
        t.due("nothing weighs", x.share(1, 2), 0);
        t.due("nothing weighs", x.share(0, 0), 0);
        Check.hear(x, -32768);
        t.due("nothing weighs", x.share(1, -2), 0);
    }
}
