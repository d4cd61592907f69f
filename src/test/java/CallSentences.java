/** Promises 1 to 30: what each call tells, what it refuses, and what stays when it does. */
final class CallSentences {
    private static final int NONE = ManyOut.NONE;
    private static final int NOTHING = ManyOut.NOTHING;
    private static final int[] FAR_OUT = {Integer.MIN_VALUE, -1000000000, -32768, -1, Integer.MAX_VALUE};
    /** Two senders, two receivers, some of everything. */
    static final String SMALL = "house 3 2 2; row 7 5; row 3 2; word 2 2; word 0 -2; word -2 0; worth square when all;"
        + "limit 9;";
    private final Sentences t;

    CallSentences(Sentences t) {
        this.t = t;
    }

    void all() {
        anew();
        feed();
        end();
        house();
        fault();
        has();
        table();
        product();
        hear();
        heard();
        send();
        distance();
        slips();
        nearest();
        near();
        within();
        cancel();
        order();
        left();
        least();
        share();
        sure();
        lead();
        undo();
        redo();
        leader();
        step();
        clash();
        worst();
        squares();
    }

    /** A small house in which something was heard, led, undone, put ahead and imaged. */
    static ManyOut used() {
        ManyOut x = Check.with(SMALL);
        Check.hear(x, 11, -4);
        x.lead(3);
        x.undo();
        Tape.ahead(x, 2, -2);
        x.image();
        return x;
    }

    private void anew() {
        t.promise(1, "A new object");
        t.say("No SENDERS, no RECEIVERS, no LETTERS; a limit of 9999.");
        ManyOut x = new ManyOut();
        for (int what = 0; what < 10; what++) {
            t.due("has(" + what + ")", x.has(what), what == 6 ? 9999 : 0);
        }
        t.due("fault", x.fault(0), 0);
        t.due("tape", x.end(1), false);
        t.due("send", x.send(), false);
        t.due("ahead", x.ahead(), -1);
        t.due("hear: as many as there are", x.hear(), true);
        t.due("rows", x.within(Long.MAX_VALUE), 0);
        t.due("squares", x.squares(false), 0);
        t.due("lead", x.lead(100), 0);
        t.due("image", x.image(), 2);
    }

    private void feed() {
        t.promise(2, "feed");
        t.say("Twenty bytes come behind those on the tape, of each number the highest first: how many there are;");
        ManyOut x = Check.with("house 2 1 6;");
        t.due("the first", x.feed(0x01020304, 0xfffe8000, 0x7fff00ff, 0x12345678, 0x9abcdef0), 20);
        x.end(12);
        x.hear();
        int[] heard = {0x0102, 0x0304, -2, -32768, 32767, 255};
        for (int r = 0; r < 6; r++) {
            t.due("the first six, " + r, x.heard(r), heard[r]);
        }
        x.feed(0, 0, 0x00000000, 0x12345678, 0x9abcdef0);
        x.end(2);
        t.due("behind two", x.feed(0x01020304, 0x05060708, 0x090a0b0c, 0x12345678, 0x9abcdef0), 22);
        x.end(12);
        x.hear();
        int[] behind = {0, 0x0102, 0x0304, 0x0506, 0x0708, 0x090a};
        for (int r = 0; r < 6; r++) {
            t.due("behind two, " + r, x.heard(r), behind[r]);
        }
        x = Check.with("house 2 1 2;");
        x.feed(0, 0, 0, 0x12345678, 0x9abcdef0);
        Check.tape(x, 0x12, 0x34, 0x9a, 0xbc);
        x.hear();
        t.due("a byte above 127", x.heard(1), (short) 0x9abc);
        t.say("NONE, doing nothing, if there would be more than 1600.");
        x = new ManyOut();
        t.due("a house", x.feed(0x686f7573, 0x65203220, 0x31203120, 0x3b726f77, 0x2033203b), 20);
        for (int n = 2; n <= 80; n++) {
            t.due("feed " + n, x.feed(0x20202020, 0x20202020, 0x20202020, 0x20202020, 0x20202020), 20 * n);
        }
        t.due("the 81st", x.feed(0x78787878, 0, 0, 0, 0), NONE);
        t.due("no byte more", x.end(1601), false);
        t.due("the same tape", x.house(), 2);
        for (int n = 0; n < 80; n++) {
            x.feed(0x20202020, 0x20202020, 0x20202020, 0x20202020, 0x20202020);
        }
        x.end(1581);
        t.due("one too many", x.feed(0x78787878, 0, 0, 0, 0), NONE);
        t.due("as many as were", x.end(1582), false);
        t.due("blanks alone", x.house(), NONE);
        t.due("at the length", x.fault(1), 1581);
        for (int n = 0; n < 80; n++) {
            x.feed(0x20202020, 0x20202020, 0x20202020, 0x20202020, 0x20202020);
        }
        x.end(1580);
        t.due("just enough", x.feed(0x20202020, 0x20202020, 0x20202020, 0x20202020, 0x20202020), 1600);
        t.due("blanks alone", x.house(), NONE);
        t.due("at the length", x.fault(1), 1600);
    }

    private void end() {
        t.promise(3, "end");
        t.say("The tape has its first n bytes alone: true;");
        ManyOut x = Check.with("house 2 1 1;");
        x.feed(0x01020304, 0, 0, 0, 0);
        t.due("all", x.end(20), true);
        t.due("19", x.end(19), true);
        t.due("2", x.end(2), true);
        t.due("heard", x.hear(), true);
        t.due("the first two", x.heard(0), 0x0102);
        t.due("none of none", x.end(0), true);
        x.feed(0, 0, 0, 0, 0);
        t.due("none", x.end(0), true);
        t.due("none is left", x.feed(0, 0, 0, 0, 0), 20);
        t.say("false, doing nothing, if it has not so many, or n is below 0.");
        t.due("21", x.end(21), false);
        t.due("-1", x.end(-1), false);
        t.due("far out", x.end(Integer.MIN_VALUE), false);
        t.due("far out", x.end(Integer.MAX_VALUE), false);
        t.due("nothing was done", x.feed(0, 0, 0, 0, 0), 40);
        x.end(7);
        t.due("8", x.end(8), false);
        t.due("7 stay", x.feed(0, 0, 0, 0, 0), 27);
        x = new ManyOut();
        t.due("1 of none", x.end(1), false);
        t.due("-1 of none", x.end(-1), false);
    }

    private void house() {
        t.promise(4, "house");
        t.say("The tape (it goes) is THE HOUSE: how many STATEMENTS;");
        ManyOut x = new ManyOut();
        t.due("one", Check.house(x, "house 2 1 1;"), 1);
        t.due("it went", x.end(1), false);
        t.due("four", Check.house(x, "house 2 1 1; row 1; limit 1; limit 2;"), 4);
        t.due("its row", x.table(0, 0, false), 1);
        t.due("sixty", Check.house(x, "house 2 1 1;" + "limit 1;".repeat(59)), 60);
        t.say("NONE with a FAULT (all stays; one without a STATEMENT has FAULT 1 at its length).");
        String[] faults = {"", "house 8 5 6", "house 9", "house 4 1 1; row 5; word 1; worth 9 when all; limit 4; row 6;",
            "house 4 1 1; word 3; worth ((((((((", "x", "house 4 4 4; limit 3; worth 1 when all; |"};
        for (String fault : faults) {
            x = used();
            String before = State.of(x);
            t.due("a fault", Check.house(x, fault), NONE);
            t.due("the tape went", x.end(1), false);
            t.same("all stays with " + fault, State.of(x), before);
        }
        x = used();
        Check.house(x, "house 8 5 6");
        t.due("one can still be redone", x.redo(), true);
        for (int length : new int[] {0, 1, 20, 1600}) {
            x = new ManyOut();
            t.due("none in " + length, Check.house(x, " ".repeat(length)), NONE);
            t.due("fault", x.fault(0), 1);
            t.due("at its length", x.fault(1), length);
        }
        t.say("Without one all HEARD are 0, the LED table is THE TABLE, nothing can be undone or redone; nothing was PUT "
            + "AHEAD.");
        x = used();
        t.due("undone and redone ahead of it", 10 * x.has(8) + x.has(9), 21);
        t.due("put ahead of it", x.put(0) != NOTHING, true);
        long near = x.near(0);
        t.due("the same house", Check.house(x, SMALL), 8);
        t.due("heard 0", x.heard(0), 0);
        t.due("heard 1", x.heard(1), 0);
        t.due("another nearest", x.near(0) != near, true);
        for (int s = 0; s < 2; s++) {
            t.due("led 0 " + s, x.table(0, s, true), x.table(0, s, false));
            t.due("led 1 " + s, x.table(1, s, true), x.table(1, s, false));
            t.due("leader", x.leader(s, s), 1);
            t.due("leader", x.leader(s, 1 - s), 0);
            t.due("put " + s, x.put(s), NOTHING);
        }
        t.due("steps done", x.has(7), 0);
        t.due("can be undone", x.has(8), 0);
        t.due("can be redone", x.has(9), 0);
        t.due("undo", x.undo(), false);
        t.due("redo", x.redo(), false);
        t.due("no step", x.step(0, 0), NOTHING);
        Check.house(x, "house 2 1 6;");
        for (int r = 0; r < 6; r++) {
            t.due("all heard", x.heard(r), 0);
        }
    }

    private void fault() {
        t.promise(5, "fault");
        t.say("Of the latest house(): its FAULT (what 0; 0 without, and ahead of any), its place (1; NONE without).");
        ManyOut x = new ManyOut();
        t.due("ahead of any", x.fault(0), 0);
        t.due("ahead of any", x.fault(1), NONE);
        Check.house(x, "house 2 1 1; x");
        t.due("the fault", x.fault(0), 1);
        t.due("its place", x.fault(1), 13);
        x.end(0);
        x.image();
        t.due("still", x.fault(0), 1);
        Check.house(x, "house 2 1 1; row 100;");
        t.due("of the latest", x.fault(0), 2);
        t.due("of the latest", x.fault(1), 17);
        Check.house(x, "house 2 1 1; worth (((((((");
        t.due("of the latest", x.fault(0), 3);
        t.due("of the latest", x.fault(1), 25);
        Check.house(x, "house 2 1 1; row 1; row 1;");
        t.due("of the latest", x.fault(0), 4);
        t.due("of the latest", x.fault(1), 20);
        Check.house(x, "house 2 1 1;");
        t.due("without", x.fault(0), 0);
        t.due("without", x.fault(1), NONE);
        t.say("NONE for another what.");
        Check.house(x, "");
        t.due("2", x.fault(2), NONE);
        for (int what : FAR_OUT) {
            t.due("" + what, x.fault(what), NONE);
        }
    }

    private void has() {
        t.promise(6, "has");
        t.say("How many there are: 0 LETTERS, 1 SENDERS, 2 RECEIVERS, 3 rows told, 4 WORDS, 5 RULES, 6 limit, 7 STEPS done, "
            + "8 that can be undone, 9 that can be redone.");
        ManyOut x = used();
        int[] all = {3, 2, 2, 2, 3, 1, 9, 2, 2, 1};
        for (int what = 0; what < 10; what++) {
            t.due("has(" + what + ")", x.has(what), all[what]);
        }
        Check.house(x, "house 8 5 6; row 1 2 3 4 5;" + "word 7 7 7 7 7;".repeat(16) + "worth 1 when all;".repeat(8));
        int[] most = {8, 5, 6, 1, 16, 8, 9999, 0, 0, 0};
        for (int what = 0; what < 10; what++) {
            t.due("the most, has(" + what + ")", x.has(what), most[what]);
        }
        Check.house(x, "house 2 1 1;");
        int[] least = {2, 1, 1, 0, 0, 0, 9999, 0, 0, 0};
        for (int what = 0; what < 10; what++) {
            t.due("the least, has(" + what + ")", x.has(what), least[what]);
        }
        x = Check.with(LedSentences.LONG);
        x.lead(39);
        t.due("39 can be undone", x.has(8), 39);
        x.lead(1);
        t.due("40 can be undone", x.has(8), 40);
        x.lead(1);
        t.due("41 are done", x.has(7), 41);
        t.due("40 can be undone", x.has(8), 40);
        t.say("NONE for others.");
        t.due("10", x.has(10), NONE);
        for (int what : FAR_OUT) {
            t.due("" + what, x.has(what), NONE);
        }
    }

    private void table() {
        t.promise(7, "table");
        t.say("A number of THE TABLE (led false), of the LED table;");
        ManyOut x = Check.with("house 2 2 2; row 7 5; row 3 2;");
        x.lead(1);
        int[][] table = {{7, 5}, {3, 2}};
        int[][] led = {{2, 5}, {1, 2}};
        for (int r = 0; r < 2; r++) {
            for (int s = 0; s < 2; s++) {
                t.due("table " + r + " " + s, x.table(r, s, false), table[r][s]);
                t.due("led " + r + " " + s, x.table(r, s, true), led[r][s]);
            }
        }
        t.say("NOTHING when there is none such.");
        t.due("receiver 2", x.table(2, 0, false), NOTHING);
        t.due("sender 2", x.table(0, 2, true), NOTHING);
        for (int k : FAR_OUT) {
            t.due("receiver " + k, x.table(k, 0, false), NOTHING);
            t.due("sender " + k, x.table(0, k, true), NOTHING);
        }
        t.due("without any", new ManyOut().table(0, 0, false), NOTHING);
        t.due("without any", new ManyOut().table(0, 0, true), NOTHING);
    }

    private void product() {
        t.promise(8, "product");
        t.say("The product of two columns, number by number, together, of THE TABLE (led false) or the LED table;");
        ManyOut x = Check.with("house 2 2 2; row 7 5; row 3 -2;");
        t.due("0 1", x.product(0, 1, false), 29);
        t.due("1 0", x.product(1, 0, true), 29);
        t.due("0 0", x.product(0, 0, false), 58);
        t.due("1 1", x.product(1, 1, true), 29);
        x.lead(1);
        t.due("led: 2 and 5", x.product(0, 1, true), 0);
        t.due("led: 2 and 5", x.product(0, 0, true), 29);
        t.due("not led", x.product(0, 1, false), 29);
        t.say("NOTHING when there are none such.");
        t.due("first 2", x.product(2, 0, false), NOTHING);
        t.due("second 2", x.product(0, 2, true), NOTHING);
        for (int k : FAR_OUT) {
            t.due("first " + k, x.product(k, 0, false), NOTHING);
            t.due("second " + k, x.product(0, k, true), NOTHING);
        }
        t.due("without any", new ManyOut().product(0, 0, false), NOTHING);
    }

    private void hear() {
        t.promise(9, "hear");
        t.say("The tape (it goes) is HEARD, two bytes for each RECEIVER (the higher first, as a short): true;");
        ManyOut x = Check.with("house 2 1 6; row 1;");
        int[] heard = {32767, -32768, 255, 256, -1, -256};
        t.due("hear", Check.hear(x, heard), true);
        t.due("the tape went", x.end(1), false);
        for (int r = 0; r < 6; r++) {
            t.due("heard " + r, x.heard(r), heard[r]);
        }
        t.due("near", x.near(0) != x.near(1), true);
        Check.hear(x, 1, 0, 0, 0, 0, 0);
        t.due("near anew", x.near(0), 0);
        t.due("led and undone stay", x.has(7), 0);
        t.say("false when it has not just so many.");
        for (int n = 0; n <= 14; n++) {
            if (n != 12) {
                x = Check.with("house 2 1 6; row 1;");
                Check.hear(x, heard);
                Check.tape(x, new int[n]);
                t.due(n + " bytes", x.hear(), false);
                t.due("the tape went", x.end(1), false);
                for (int r = 0; r < 6; r++) {
                    t.due("heard stays", x.heard(r), heard[r]);
                }
            }
        }
        x = used();
        String before = State.of(x);
        Check.tape(x, 1, 2, 3);
        t.due("three bytes", x.hear(), false);
        t.same("all stays", State.of(x), before);
        x = new ManyOut();
        x.feed(0, 0, 0, 0, 0);
        x.end(2);
        t.due("two bytes for no receiver", x.hear(), false);
    }

    private void heard() {
        t.promise(10, "heard");
        t.say("HEARD of a RECEIVER;");
        ManyOut x = Check.with("house 2 1 2; row 5;");
        Check.hear(x, 3, -3);
        t.due("0", x.heard(0), 3);
        t.due("1", x.heard(1), -3);
        t.say("NOTHING when there is none such.");
        t.due("2", x.heard(2), NOTHING);
        for (int r : FAR_OUT) {
            t.due("" + r, x.heard(r), NOTHING);
        }
        t.due("without any", new ManyOut().heard(0), NOTHING);
    }

    private void send() {
        t.promise(11, "send");
        t.say("The tape (it goes) is a ROW, a byte for each SENDER (a LETTER as a byte with its sign); what is SENT is HEARD: "
            + "true;");
        ManyOut x = Check.with("house 8 2 2; row 1 10; row 2 -3;");
        t.due("send", Tape.send(x, 7, -7), true);
        t.due("the tape went", x.end(1), false);
        t.due("heard 0", x.heard(0), -63);
        t.due("heard 1", x.heard(1), 35);
        t.due("it is nearest", x.near(0), 0);
        t.due("it is nearest", x.nearest(0, 1), -7);
        Tape.send(x, -1, 1);
        t.due("sent anew, heard 0", x.heard(0), 9);
        t.due("sent anew, nearest", x.nearest(0, 0), -1);
        t.say("false when it is none such.");
        x = used();
        String before = State.of(x);
        int[][] none = {{}, {2}, {2, 2, 2}, {1, 0}, {0, 1}, {4, 0}, {0, -4}, {0, 3}, {127, 0}, {0, -128}, {-3, 2}};
        for (int[] row : none) {
            t.due("no row", Tape.send(x, row), false);
            t.due("the tape went", x.end(1), false);
        }
        t.same("all stays", State.of(x), before);
        x = new ManyOut();
        t.due("without senders", x.send(), false);
        t.due("without senders", Tape.send(x, 0), false);
    }

    private void distance() {
        t.promise(12, "distance");
        t.say("DISTANCE of the tape (it goes), a ROW as for send();");
        ManyOut x = used();
        String before = State.of(x);
        // 11 and -4 heard: 2 -2 sends 4 2, 0 0 sends nothing, -2 -2 sends -24 -10.
        t.due("2 -2", Tape.distance(x, 2, -2), 49 + 36);
        t.due("the tape went", x.end(1), false);
        t.due("0 0", Tape.distance(x, 0, 0), 121 + 16);
        t.due("-2 -2", Tape.distance(x, -2, -2), 35 * 35 + 36);
        t.same("all stays", State.of(x), before);
        t.say("-1 when it is none such.");
        int[][] none = {{}, {2}, {2, 2, 2}, {1, 0}, {0, 1}, {4, 0}, {0, -4}, {0, 127}, {-128, 0}};
        for (int[] row : none) {
            t.due("no row", Tape.distance(x, row), -1);
            t.due("the tape went", x.end(1), false);
        }
        t.due("without senders", new ManyOut().distance(), -1);
        t.due("without senders", Tape.distance(new ManyOut(), 0), -1);
    }

    private void slips() {
        t.promise(13, "slips");
        t.say("SLIPS, most 0 .. 9999: how many DRAWS;");
        ManyOut x = new ManyOut();
        for (int receivers = 1; receivers <= 6; receivers++) {
            Check.house(x, "house 2 1 " + receivers + "; row 1;");
            t.due("most 0", x.slips(0, 5), receivers);
            t.due("most 9999", x.slips(9999, 5), receivers);
            t.due("most 1", x.slips(1, -5), receivers);
        }
        Check.house(x, "house 2 1 1; row 1;");
        x.near(0);
        x.slips(9999, 1);
        long miss = Math.abs(x.heard(0)) - 1;
        t.due("heard by slips", x.near(0), miss * miss);
        t.say("NONE when something can't be, or there are no RECEIVERS.");
        x = used();
        String before = State.of(x);
        t.due("most 10000", x.slips(10000, 5), NONE);
        for (int most : FAR_OUT) {
            t.due("most " + most, x.slips(most, 5), NONE);
        }
        t.same("all stays", State.of(x), before);
        t.due("no receivers", new ManyOut().slips(5, 5), NONE);
        t.due("no receivers", new ManyOut().slips(0, 0), NONE);
    }

    private void nearest() {
        t.promise(14, "nearest");
        t.say("THE NEAREST, the k-th ROW (0 .. 9): a SENDER's letter;");
        ManyOut x = Check.with("house 4 2 1; row 4 1;");
        // Sent grow row by row from -15 on by 2: with -15 heard the nearest are the first ones.
        Check.hear(x, -15);
        for (int k = 0; k < 10; k++) {
            t.due("row " + k + ", 0", x.nearest(k, 0), 2 * (k / 4) - 3);
            t.due("row " + k + ", 1", x.nearest(k, 1), 2 * (k % 4) - 3);
        }
        Check.hear(x, 15);
        for (int k = 0; k < 10; k++) {
            t.due("from the end, row " + k + ", 0", x.nearest(k, 0), 3 - 2 * (k / 4));
            t.due("from the end, row " + k + ", 1", x.nearest(k, 1), 3 - 2 * (k % 4));
        }
        t.say("NOTHING when there is none such.");
        t.due("k 10", x.nearest(10, 0), NOTHING);
        t.due("sender 2", x.nearest(0, 2), NOTHING);
        for (int k : FAR_OUT) {
            t.due("k " + k, x.nearest(k, 0), NOTHING);
            t.due("sender " + k, x.nearest(0, k), NOTHING);
        }
        Check.house(x, "house 2 1 1; row 1;");
        t.due("the second of two", x.nearest(1, 0), 1);
        t.due("a third of two", x.nearest(2, 0), NOTHING);
        Check.house(x, "house 3 2 1; row 1 1;");
        t.due("the ninth of nine", x.nearest(8, 0), 2);
        t.due("a tenth of nine", x.nearest(9, 0), NOTHING);
        t.due("without senders", new ManyOut().nearest(0, 0), NOTHING);
    }

    private void near() {
        t.promise(15, "near");
        t.say("Its DISTANCE;");
        ManyOut x = Check.with("house 4 2 1; row 4 1;");
        Check.hear(x, -15);
        for (int k = 0; k < 10; k++) {
            t.due("row " + k, x.near(k), 4L * k * k);
        }
        Check.hear(x, 4);
        // The distances of the rows fall to 1 and rise again: those that rise go among those that fell.
        long[] far = {1, 1, 9, 9, 25, 25, 49, 49, 81, 81};
        for (int k = 0; k < 10; k++) {
            t.due("falling and rising, row " + k, x.near(k), far[k]);
        }
        t.say("-1 when there is none such.");
        t.due("k 10", x.near(10), -1);
        for (int k : FAR_OUT) {
            t.due("k " + k, x.near(k), -1);
        }
        Check.house(x, "house 2 1 1; row 1;");
        t.due("the second of two", x.near(1), 1);
        t.due("a third of two", x.near(2), -1);
        t.due("without senders", new ManyOut().near(0), -1);
    }

    private void within() {
        t.promise(16, "within");
        t.say("How many ROWS have a DISTANCE not above a limit (0 at least);");
        ManyOut x = Check.with("house 4 2 1; row 4 1;");
        Check.hear(x, -15);
        for (int k = 0; k < 16; k++) {
            t.due("just " + k, x.within(4L * k * k), k + 1);
            t.due("less than " + k, k == 0 ? 0 : x.within(4L * k * k - 1), k);
        }
        t.due("all", x.within(900), 16);
        t.due("any", x.within(Long.MAX_VALUE), 16);
        Check.hear(x, -16);
        t.due("none", x.within(0), 0);
        t.due("no rows", new ManyOut().within(0), 0);
        t.say("NONE when it can't be.");
        t.due("-1", x.within(-1), NONE);
        t.due("far out", x.within(Long.MIN_VALUE), NONE);
        t.due("no rows", new ManyOut().within(-1), NONE);
    }

    private void cancel() {
        t.promise(17, "cancel");
        t.say("BY CANCELLING: a SENDER's letter;");
        ManyOut x = Check.with("house 2 3 1; row 1 4 2;");
        Check.hear(x, 3);
        int[] letters = {1, 1, -1};
        for (int s = 0; s < 3; s++) {
            t.due("sender " + s, x.cancel(s), letters[s]);
        }
        Check.house(x, "house 8 5 6; row 1 0 0 0 9; row 0 2 0 0 9; row 0 0 3 0 9; row 0 0 0 4 9; row 0 0 0 0 9;"
            + "row 0 0 0 0 9;");
        // The last one first: by it 9 times 5 goes from each.
        Check.hear(x, 45 + 7, 45 - 14, 45 + 9, 45 - 4, 45, 45);
        int[] five = {7, -7, 3, -1, 5};
        for (int s = 0; s < 5; s++) {
            t.due("five senders and six receivers, " + s, x.cancel(s), five[s]);
        }
        t.due("nothing is left", x.left(), 0);
        Check.house(x, "house 2 3 1; row 1 4 2;");
        t.say("NOTHING when there is none such.");
        t.due("sender 3", x.cancel(3), NOTHING);
        for (int s : FAR_OUT) {
            t.due("sender " + s, x.cancel(s), NOTHING);
        }
        t.due("without senders", new ManyOut().cancel(0), NOTHING);
    }

    private void order() {
        t.promise(18, "order");
        t.say("The k-th SENDER that is cancelled;");
        ManyOut x = Check.with("house 2 3 1; row 1 4 2;");
        int[] order = {1, 2, 0};
        for (int k = 0; k < 3; k++) {
            t.due("k " + k, x.order(k), order[k]);
        }
        t.say("NONE when there is none such.");
        t.due("k 3", x.order(3), NONE);
        for (int k : FAR_OUT) {
            t.due("k " + k, x.order(k), NONE);
        }
        t.due("without senders", new ManyOut().order(0), NONE);
    }

    private void left() {
        t.promise(19, "left");
        t.say("DISTANCE of the ROW BY CANCELLING;");
        ManyOut x = Check.with("house 2 3 1; row 3 2 2;");
        Check.hear(x, 1);
        // 3, then -2 is left: -2, then 0 is left: -2 (the least), so 2 is left.
        t.due("left", x.left(), 4);
        t.due("it could be nearer", x.near(0), 0);
        Check.hear(x, 7);
        t.due("none", x.left(), 0);
        t.say("-1 without SENDERS.");
        t.due("without", new ManyOut().left(), -1);
    }

    private void least() {
        t.promise(20, "least");
        t.say("The least DISTANCE of ROWS with a LETTER of a SENDER;");
        ManyOut x = Check.with("house 3 2 1; row 10 1;");
        Check.hear(x, 21);
        // 20 and 2, 0 or -2; 0 and 2; -20 and 2.
        t.due("2 of the first", x.least(0, 2), 1);
        t.due("0 of the first", x.least(0, 0), 19 * 19);
        t.due("-2 of the first", x.least(0, -2), 39 * 39);
        t.due("2 of the second", x.least(1, 2), 1);
        t.due("0 of the second", x.least(1, 0), 1);
        t.due("-2 of the second", x.least(1, -2), 9);
        t.say("-1 when there are none such.");
        t.due("sender 2", x.least(2, 0), -1);
        t.due("letter 1", x.least(0, 1), -1);
        t.due("letter 3", x.least(0, 3), -1);
        t.due("letter 4", x.least(0, 4), -1);
        t.due("letter -4", x.least(0, -4), -1);
        for (int k : FAR_OUT) {
            t.due("sender " + k, x.least(k, 0), -1);
            t.due("letter " + k, x.least(0, k), -1);
        }
        t.due("without senders", new ManyOut().least(0, 0), -1);
    }

    private void share() {
        t.promise(21, "share");
        t.say("THE SHARE;");
        ManyOut x = Check.with("house 3 1 1; row 10;");
        Check.hear(x, 3);
        // Distances 17, 3 and 23 squared: 10 to the 9 / 290, / 10 and / 530.
        long all = 1000000000L / 290 + 1000000000L / 10 + 1000000000L / 530;
        t.due("2", x.share(0, 2), 1000 * (1000000000L / 290) / all);
        t.due("0", x.share(0, 0), 1000 * (1000000000L / 10) / all);
        t.due("-2", x.share(0, -2), 1000 * (1000000000L / 530) / all);
        t.say("NONE when there is none such.");
        t.due("sender 1", x.share(1, 0), NONE);
        t.due("letter 1", x.share(0, 1), NONE);
        t.due("letter 4", x.share(0, 4), NONE);
        t.due("letter -4", x.share(0, -4), NONE);
        for (int k : FAR_OUT) {
            t.due("sender " + k, x.share(k, 0), NONE);
            t.due("letter " + k, x.share(0, k), NONE);
        }
        t.due("without senders", new ManyOut().share(0, 0), NONE);
    }

    private void sure() {
        t.promise(22, "sure");
        t.say("By how much a SENDER is sure: the least DISTANCE of ROWS with another LETTER of it than the NEAREST has, less "
            + "that one's;");
        ManyOut x = Check.with("house 3 2 1; row 10 1;");
        Check.hear(x, 22);
        // 20 and 2: 0. Another first letter: 0 and 2: 20 squared. Another second one: 20 and 0: 4.
        t.due("the first", x.sure(0), 400);
        t.due("the second", x.sure(1), 4);
        Check.hear(x, 23);
        t.due("less that one's: the first", x.sure(0), 21 * 21 - 1);
        t.due("less that one's: the second", x.sure(1), 9 - 1);
        Check.hear(x, 10);
        // 20 - 2 and 0 + 2 are 8 off: both 64; the first has 0.
        t.due("as near with another", x.sure(0), 0);
        t.due("the second has 2, the other row -2", x.sure(1), 0);
        Check.hear(x, 1);
        // 0 and 0, or 0 and 2.
        t.due("as near with another", x.sure(1), 0);
        t.due("20 - 2 and 1", x.sure(0), 17 * 17 - 1);
        ManyOut y = Check.with("house 8 5 5; row 1 0 0 0 0; row 0 2 0 0 0; row 0 0 3 0 0; row 0 0 0 4 0; row 0 0 0 0 5;");
        // All have the least letter, and each is sure by its own column alone.
        Tape.send(y, -7, -7, -7, -7, -7);
        for (int s = 0; s < 5; s++) {
            t.due("eight letters, five senders, " + s, y.sure(s), 4 * (s + 1) * (s + 1));
        }
        t.say("-1 when there is none such.");
        t.due("sender 2", x.sure(2), -1);
        for (int s : FAR_OUT) {
            t.due("sender " + s, x.sure(s), -1);
        }
        t.due("without senders", new ManyOut().sure(0), -1);
    }

    private void lead() {
        t.promise(23, "lead");
        t.say("n STEPS (1 .. 100), fewer if it RESTS: how many were made;");
        ManyOut x = Check.with(LedSentences.LONG);
        t.due("1", x.lead(1), 1);
        t.due("done", x.has(7), 1);
        t.due("100", x.lead(100), 100);
        t.due("done", x.has(7), 101);
        t.due("fewer", x.lead(100), 99);
        t.due("none", x.lead(100), 0);
        Check.house(x, "house 2 2 1; row 7 5;");
        t.due("2", x.lead(2), 2);
        t.due("fewer", x.lead(2), 1);
        t.due("none", x.lead(1), 0);
        Check.house(x, "house 2 5 5; row 1 0 0 0 0; row 0 2 0 0 0; row 0 0 3 0 0; row 0 0 0 4 0; row 0 0 0 0 5;");
        t.due("five that rest at once", x.lead(100), 0);
        Check.house(x, "house 2 5 1; row 5 4 3 2 1;");
        t.due("five", x.lead(100) > 0, true);
        t.due("rest", x.lead(100), 0);
        t.due("at a single 1", x.squares(true), 1);
        t.due("without senders", new ManyOut().lead(1), 0);
        t.say("NONE, doing nothing, for others.");
        x = used();
        String before = State.of(x);
        t.due("0", x.lead(0), NONE);
        t.due("101", x.lead(101), NONE);
        for (int n : FAR_OUT) {
            t.due("" + n, x.lead(n), NONE);
        }
        t.same("all stays", State.of(x), before);
        t.due("without senders", new ManyOut().lead(101), NONE);
    }

    private void undo() {
        t.promise(24, "undo");
        t.say("The latest STEP that can be is undone: true;");
        ManyOut x = Check.with("house 2 2 2; row 7 5; row 3 2;");
        x.lead(1);
        String one = State.of(x);
        x.lead(1);
        x.undo();
        t.same("as after one step, but for what can be redone", State.of(x).replace("has1 table", "has0 table"), one);
        x = Check.with("house 2 2 2; row 7 5; row 3 2;");
        x.lead(3);
        int[][] led = {{2, 1, 1, 0}, {2, 1, 5, 2}, {7, 3, 5, 2}};
        for (int n = 0; n < 3; n++) {
            t.due("undo " + n, x.undo(), true);
            for (int k = 0; k < 4; k++) {
                t.due("led " + n + " " + k, x.table(k % 2, k / 2, true), led[n][k]);
            }
            t.due("done", x.has(7), 2 - n);
            t.due("undone", x.has(9), n + 1);
        }
        t.say("false when there is none.");
        String before = State.of(x);
        t.due("none", x.undo(), false);
        t.same("all stays", State.of(x), before);
        t.due("none", new ManyOut().undo(), false);
        x = Check.with(LedSentences.LONG);
        x.lead(41);
        for (int n = 0; n < 40; n++) {
            t.due("undo " + n, x.undo(), true);
        }
        t.due("the first step can't be", x.undo(), false);
        t.due("it is done", x.has(7), 1);
    }

    private void redo() {
        t.promise(25, "redo");
        t.say("The latest one undone that can be is redone: true;");
        ManyOut x = Check.with("house 2 2 2; row 7 5; row 3 2;");
        x.lead(3);
        for (int n = 0; n < 3; n++) {
            x.undo();
        }
        int[][] led = {{2, 1, 5, 2}, {2, 1, 1, 0}, {0, 1, 1, 0}};
        for (int n = 0; n < 3; n++) {
            t.due("redo " + n, x.redo(), true);
            for (int k = 0; k < 4; k++) {
                t.due("led " + n + " " + k, x.table(k % 2, k / 2, true), led[n][k]);
            }
            t.due("done", x.has(7), n + 1);
            t.due("can be undone", x.has(8), n + 1);
            t.due("can be redone", x.has(9), 2 - n);
        }
        t.due("leader", x.leader(1, 0), -7);
        t.say("false when there is none.");
        String before = State.of(x);
        t.due("none", x.redo(), false);
        t.same("all stays", State.of(x), before);
        x.undo();
        x.lead(1);
        t.due("a new step was made", x.redo(), false);
        t.due("none", new ManyOut().redo(), false);
    }

    private void leader() {
        t.promise(26, "leader");
        t.say("A number of THE LEADER (row, column);");
        ManyOut x = Check.with("house 2 2 2; row 7 5; row 3 2;");
        x.lead(1);
        t.due("0 0", x.leader(0, 0), 1);
        t.due("1 0", x.leader(1, 0), -1);
        t.due("0 1", x.leader(0, 1), 0);
        t.due("1 1", x.leader(1, 1), 1);
        x.lead(2);
        t.due("0 0", x.leader(0, 0), 5);
        t.due("1 0", x.leader(1, 0), -7);
        t.due("0 1", x.leader(0, 1), -2);
        t.due("1 1", x.leader(1, 1), 3);
        t.say("NOTHING when there is none such.");
        t.due("row 2", x.leader(2, 0), NOTHING);
        t.due("column 2", x.leader(0, 2), NOTHING);
        for (int k : FAR_OUT) {
            t.due("row " + k, x.leader(k, 0), NOTHING);
            t.due("column " + k, x.leader(0, k), NOTHING);
        }
        t.due("without senders", new ManyOut().leader(0, 0), NOTHING);
    }

    private void step() {
        t.promise(27, "step");
        t.say("Of the k-th STEP that can be undone, from the oldest on: 0 its column i, 1 its column j, 2 how many times.");
        ManyOut x = Check.with("house 2 2 2; row 7 5; row 3 2;");
        x.lead(3);
        int[][] steps = {{0, 1, 1}, {1, 0, 2}, {0, 1, 2}};
        for (int k = 0; k < 3; k++) {
            for (int what = 0; what < 3; what++) {
                t.due("step " + k + " " + what, x.step(k, what), steps[k][what]);
            }
        }
        x.undo();
        t.due("what can be undone alone", x.step(2, 0), NOTHING);
        t.due("the second", x.step(1, 2), 2);
        x = Check.with(LedSentences.LONG);
        ManyOut y = Check.with(LedSentences.LONG);
        x.lead(45);
        y.lead(40);
        for (int k = 0; k < 35; k++) {
            for (int what = 0; what < 3; what++) {
                t.due("from the oldest on, " + k, x.step(k, what), y.step(k + 5, what));
            }
        }
        t.say("NOTHING when there is none such, or for others.");
        t.due("k 40", x.step(40, 0), NOTHING);
        t.due("the last one", x.step(39, 0) != NOTHING, true);
        t.due("what 3", x.step(0, 3), NOTHING);
        for (int k : FAR_OUT) {
            t.due("k " + k, x.step(k, 0), NOTHING);
            t.due("what " + k, x.step(0, k), NOTHING);
        }
        t.due("without any", new ManyOut().step(0, 0), NOTHING);
        t.due("ahead of any", Check.with("house 2 2 1; row 7 5;").step(0, 0), NOTHING);
    }

    private void clash() {
        t.promise(28, "clash");
        t.say("How alike two unlike columns are: floor(1000 times the square of their product / the product of their "
            + "squares), of THE TABLE or the LED table;");
        ManyOut x = Check.with("house 2 3 2; row 3 1 -6; row 1 -2 -2;");
        // Products 1, -20, -2; squares 10, 5, 40.
        t.due("0 1", x.clash(0, 1, false), 20);
        t.due("1 0", x.clash(1, 0, true), 20);
        t.due("0 2", x.clash(0, 2, false), 1000);
        t.due("1 2", x.clash(1, 2, false), 20);
        x = Check.with("house 2 2 2; row 7 5; row 3 2;");
        t.due("41 squared / (58 * 29)", x.clash(0, 1, false), 999);
        x.lead(1);
        t.due("led: 12 squared / (5 * 29)", x.clash(0, 1, true), 993);
        t.due("the table", x.clash(0, 1, false), 999);
        x = Check.with("house 2 2 6;" + "row 99 -99;".repeat(6));
        t.due("the most", x.clash(0, 1, false), 1000);
        t.say("0 when one is nothing;");
        x = Check.with("house 2 3 1; row 0 5 0;");
        t.due("the first", x.clash(0, 1, false), 0);
        t.due("the second", x.clash(1, 0, false), 0);
        t.due("both", x.clash(0, 2, true), 0);
        x = Check.with("house 2 2 1; row 10 5;");
        t.due("not yet", x.clash(0, 1, true), 1000);
        x.lead(1);
        t.due("led to nothing", x.clash(0, 1, true), 0);
        t.say("NONE when there are none such.");
        t.due("not unlike", x.clash(0, 0, false), NONE);
        t.due("not unlike", x.clash(1, 1, true), NONE);
        t.due("first 2", x.clash(2, 0, false), NONE);
        t.due("second 2", x.clash(0, 2, true), NONE);
        for (int k : FAR_OUT) {
            t.due("first " + k, x.clash(k, 0, false), NONE);
            t.due("second " + k, x.clash(0, k, true), NONE);
        }
        t.due("without senders", new ManyOut().clash(0, 1, false), NONE);
    }

    private void worst() {
        t.promise(29, "worst");
        t.say("The two SENDERS (100 times the lesser and the other one) whose columns are most alike, the first of like ones;");
        ManyOut x = Check.with("house 2 5 2; row 1 0 1 1 5; row 0 1 1 -1 6;");
        t.due("1 1 and 5 6", x.worst(false), 204);
        t.due("led the same", x.worst(true), 204);
        Check.house(x, "house 2 3 2; row 1 0 1; row 0 1 1;");
        t.due("500 twice", x.worst(false), 2);
        Check.house(x, "house 2 3 3; row 1 0 0; row 0 1 0; row 0 0 1;");
        t.due("0 thrice", x.worst(false), 1);
        Check.house(x, "house 2 5 1;");
        t.due("nothing", x.worst(true), 1);
        Check.house(x, "house 2 5 2; row 1 0 0 3 6; row 0 1 0 4 8;");
        t.due("the last two", x.worst(false), 304);
        x.lead(1);
        // 3 4 less 3 times 1 0, or so: the led table is another one.
        t.due("the table is the same", x.worst(false), 304);
        Check.house(x, "house 2 2 1; row 10 5;");
        x.lead(1);
        t.due("two alone", x.worst(true), 1);
        t.say("NONE with fewer than two.");
        Check.house(x, "house 2 1 1; row 5;");
        t.due("one", x.worst(false), NONE);
        t.due("one", x.worst(true), NONE);
        t.due("none", new ManyOut().worst(false), NONE);
    }

    private void squares() {
        t.promise(30, "squares");
        t.say("All squares of a LED table's (led), or THE TABLE's numbers together.");
        ManyOut x = Check.with("house 2 2 2; row 7 5; row 3 2;");
        t.due("the table", x.squares(false), 87);
        t.due("led", x.squares(true), 87);
        x.lead(1);
        t.due("the table", x.squares(false), 87);
        t.due("led", x.squares(true), 34);
        Check.house(x, "house 2 5 6;" + "row -99 99 99 -99 99;".repeat(6));
        t.due("the most", x.squares(false), 30 * 9801);
        t.due("none", new ManyOut().squares(false), 0);
        t.due("none", new ManyOut().squares(true), 0);
    }
}
