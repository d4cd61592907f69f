/** Each promise of the document with answers written out: ordinary inputs, edges, wrong inputs. */
public final class PromiseTest {
    private static final Check CHECK = new Check();
    private static final int NONE = ManyOut.NONE;
    private static final int NOTHING = ManyOut.NOTHING;
    /** Its columns are (3, 1, 0), (1, -2, 0), (0, 0, 5). */
    private static final String THREE = "house 3 3 3; row 3 1 0; row 1 -2 0; row 0 0 5;";
    /** A table whose leading has not come to rest at 200 steps. */
    private static final String LONG = "house 2 5 4;row 84 77 -51 9 -85;row -46 -90 -8 -56 -60;"
        + "row -87 -89 84 96 -56;row 20 1 36 81 58;";

    private static void due(String what, long got, long want) {
        CHECK.due(what, got, want);
    }

    private static void due(String what, boolean got, boolean want) {
        CHECK.due(what, got, want);
    }

    private static void row(ManyOut x, int... letters) {
        Check.tape(x, letters);
    }

    private static boolean send(ManyOut x, int... letters) {
        row(x, letters);
        return x.send();
    }

    private static long distance(ManyOut x, int... letters) {
        row(x, letters);
        return x.distance();
    }

    private static long ahead(ManyOut x, int... letters) {
        row(x, letters);
        return x.ahead();
    }

    private static void p1New() {
        ManyOut x = new ManyOut();
        for (int what = 0; what < 10; what++) {
            due("1: has(" + what + ")", x.has(what), what == 6 ? 9999 : 0);
        }
        due("1: worst", x.worst(false), NONE);
        due("1: within", x.within(0), 0);
        due("1: span", x.span(false), -1);
        due("1: squares", x.squares(true), 0);
        due("1: chosen", x.chosen(1, 0), NONE);
        due("1: sums", x.sums(1, 1, NONE), NOTHING);
        due("1: apart", x.apart(1), -1);
        due("1: undo", x.undo(), false);
        due("1: redo", x.redo(), false);
        due("1: put", x.put(0), NOTHING);
        due("1: lead", x.lead(1), 0);
    }

    private static void p2Feed() {
        ManyOut x = new ManyOut();
        for (int n = 1; n <= 80; n++) {
            due("2: feed " + n, x.feed(0x20202020, 0, 0, 0, 0), 20 * n);
        }
        due("2: a feed too much", x.feed(0, 0, 0, 0, 0), NONE);
        due("2: still full", x.end(1600), true);
        x.end(1581);
        due("2: a byte too much", x.feed(0, 0, 0, 0, 0), NONE);
        x.end(1580);
        due("2: just enough", x.feed(0, 0, 0, 0, 0), 1600);
        x = Check.with("house 2 1 6;");
        x.feed(0x01020304, 0x7fff8000, 0xffff0102, 0, 0);
        x.end(12);
        due("2: the highest byte first", x.hear(), true);
        int[] heard = {0x0102, 0x0304, 32767, -32768, -1, 0x0102};
        for (int r = 0; r < 6; r++) {
            due("2: heard(" + r + ")", x.heard(r), heard[r]);
        }
    }

    private static void p3End() {
        ManyOut x = new ManyOut();
        due("3: end(0) of none", x.end(0), true);
        due("3: end(1) of none", x.end(1), false);
        x.feed(0, 0, 0, 0, 0);
        due("3: end(21)", x.end(21), false);
        due("3: end(-1)", x.end(-1), false);
        due("3: end(min)", x.end(Integer.MIN_VALUE), false);
        due("3: nothing was done", x.feed(0, 0, 0, 0, 0), 40);
        due("3: end(40)", x.end(40), true);
        due("3: end(7)", x.end(7), true);
        due("3: end(8)", x.end(8), false);
        due("3: behind seven", x.feed(0, 0, 0, 0, 0), 27);
    }

    private static void p4House() {
        ManyOut x = Check.with(THREE + " limit 7; limit 3;");
        due("4: the last limit", x.has(6), 3);
        Check.hear(x, 7, 8, 9);
        x.lead(1);
        ahead(x, 0, 0, 0);
        due("4: a fault", Check.house(x, "house 2 2 2; row 1"), NONE);
        due("4: heard stays", x.heard(2), 9);
        due("4: letters stay", x.has(0), 3);
        due("4: put stays", x.put(1), 0);
        due("4: the limit stays", x.has(6), 3);
        due("4: the tape went", x.end(1), false);
        due("4: the same again", Check.house(x, THREE), 4);
        due("4: the tape went", x.end(1), false);
        for (int r = 0; r < 3; r++) {
            due("4: nothing is heard", x.heard(r), 0);
        }
        due("4: no steps", x.has(7), 0);
        due("4: none to undo", x.has(8), 0);
        due("4: nothing is put", x.put(1), NOTHING);
        due("4: no limit", x.has(6), 9999);
        x = Check.with("house 2 2 2; row 2 3; row 1 1;");
        x.lead(2);
        x.undo();
        due("4: steps to undo and redo", x.has(8) + x.has(9), 2);
        due("4: one statement", Check.house(x, " house 2 2 2 ; "), 1);
        due("4: none to undo", x.has(8), 0);
        due("4: none to redo", x.has(9), 0);
        due("4: the table is nothing", x.squares(true), 0);
        due("4: so is its leader's rest", x.leader(0, 1), 0);
        due("4: and 1 where they meet", x.leader(1, 1), 1);
        due("4: none", Check.house(x, "  "), NONE);
        due("4: has its fault", x.fault(0), 1);
        due("4: at its length", x.fault(1), 2);
    }

    private static void p5Fault() {
        ManyOut x = new ManyOut();
        due("5: ahead of any", x.fault(0), 0);
        due("5: ahead of any", x.fault(1), NONE);
        Check.house(x, "house 2 9 1;");
        due("5: a number", x.fault(0), 2);
        due("5: its place", x.fault(1), 8);
        due("5: another what", x.fault(2), NONE);
        due("5: another what", x.fault(-1), NONE);
        Check.house(x, "house 2 1 1;");
        due("5: without", x.fault(0), 0);
        due("5: without", x.fault(1), NONE);
    }

    private static void p6Has() {
        ManyOut x = Check.with("house 7 2 4; row 1 2; word 6 6; word 0 0; word 4 4; worth 1 when all; limit 12;"
            + "row 5 7; worth 2 when all;");
        int[] all = {7, 2, 4, 2, 3, 2, 12, 0, 0, 0};
        for (int what = 0; what < 10; what++) {
            due("6: has(" + what + ")", x.has(what), all[what]);
        }
        due("6: has(-1)", x.has(-1), NONE);
        due("6: has(10)", x.has(10), NONE);
        x = Check.with(LONG);
        due("6: a hundred steps", x.lead(100), 100);
        due("6: steps done", x.has(7), 100);
        due("6: the last 40", x.has(8), 40);
        x.undo();
        due("6: steps done", x.has(7), 99);
        due("6: to undo", x.has(8), 39);
        due("6: to redo", x.has(9), 1);
    }

    private static void p7Table() {
        ManyOut x = Check.with("house 2 2 3; row 10 7; row 0 -99;");
        due("7: table", x.table(0, 0, false), 10);
        due("7: table", x.table(0, 1, false), 7);
        due("7: table", x.table(1, 1, true), -99);
        due("7: not told", x.table(2, 1, false), 0);
        due("7: no receiver", x.table(3, 0, false), NOTHING);
        due("7: no receiver", x.table(-1, 0, true), NOTHING);
        due("7: no sender", x.table(0, 2, false), NOTHING);
        due("7: no sender", x.table(0, -1, true), NOTHING);
        x.lead(1);
        due("7: the table stays", x.table(0, 1, false), 7);
        due("7: led", x.table(0, 1, true), -3);
    }

    private static void p8Product() {
        ManyOut x = Check.with(THREE);
        due("8: product", x.product(0, 1, false), 1);
        due("8: squares", x.product(2, 2, false), 25);
        due("8: either way", x.product(1, 0, true), 1);
        due("8: no first", x.product(-1, 0, false), NOTHING);
        due("8: no second", x.product(0, 3, true), NOTHING);
        x = Check.with("house 2 2 1; row 5 2;");
        x.lead(1);
        due("8: led", x.product(0, 1, true), 2);
        due("8: not led", x.product(0, 1, false), 10);
        x = Check.with("house 2 2 6;" + " row 99 -99;".repeat(6));
        due("8: the least", x.product(0, 1, false), -58806);
    }

    private static void p9Hear() {
        ManyOut x = Check.with("house 2 1 2; row 1; row 1;");
        due("9: hear", Check.hear(x, -32768, 32767), true);
        due("9: heard", x.heard(0), -32768);
        due("9: heard", x.heard(1), 32767);
        Check.tape(x, 1, 2, 3);
        due("9: too few", x.hear(), false);
        due("9: the tape went", x.end(1), false);
        Check.tape(x, 1, 2, 3, 4, 5);
        due("9: too many", x.hear(), false);
        due("9: none", x.hear(), false);
        due("9: all stays", x.heard(0), -32768);
    }

    private static void p10Heard() {
        ManyOut x = Check.with("house 2 1 2;");
        due("10: 0 at first", x.heard(1), 0);
        due("10: none such", x.heard(2), NOTHING);
        due("10: none such", x.heard(-1), NOTHING);
        due("10: none such", x.heard(Integer.MIN_VALUE), NOTHING);
    }

    private static void p11Send() {
        ManyOut x = Check.with(THREE);
        due("11: send", send(x, 2, -2, 2), true);
        due("11: 3 * 2 + 1 * -2", x.heard(0), 4);
        due("11: 1 * 2 + -2 * -2", x.heard(1), 6);
        due("11: 5 * 2", x.heard(2), 10);
        due("11: the tape went", x.end(1), false);
        due("11: no letter", send(x, 1, 0, 0), false);
        due("11: no letter", send(x, 0, 0, 4), false);
        due("11: no letter", send(x, 0, -4, 0), false);
        due("11: too few", send(x, 0, 0), false);
        due("11: too many", send(x, 0, 0, 0, 0), false);
        due("11: the tape went", x.end(1), false);
        due("11: all stays", x.heard(2), 10);
        x = Check.with("house 8 5 1; row 99 99 99 99 99;");
        due("11: the most", send(x, 7, 7, 7, 7, 7), true);
        due("11: it", x.heard(0), 3465);
    }

    private static void p12Distance() {
        ManyOut x = Check.with(THREE);
        Check.hear(x, 4, 6, 10);
        due("12: none", distance(x, 2, -2, 2), 0);
        due("12: 4, 6, 10", distance(x, 0, 0, 0), 16 + 36 + 100);
        due("12: the tape went", x.end(1), false);
        due("12: no letter", distance(x, 1, 0, 0), -1);
        due("12: too few", distance(x, 0, 0), -1);
        x = Check.with("house 8 5 6;" + "row 99 99 99 99 99;".repeat(6));
        Check.hear(x, -32768, -32768, -32768, -32768, -32768, -32768);
        due("12: the most", distance(x, 7, 7, 7, 7, 7), 6L * 36233 * 36233);
    }

    private static void p13Slips() {
        ManyOut x = Check.with("house 2 1 2;");
        due("13: slips", x.slips(10, 1), 2);
        // 1103527590 / 64 = 17242618, mod 21: 13; then 377401575 / 64 = 5896899, mod 21: 12.
        due("13: the first", x.heard(0), 17242618 % 21 - 10);
        long second = (1103515245L * 1103527590L + 12345) % (1L << 31);
        due("13: the second", x.heard(1), second / 64 % 21 - 10);
        due("13: most below 0", x.slips(-1, 1), NONE);
        due("13: most above", x.slips(10000, 1), NONE);
        due("13: none", x.slips(0, 77), 2);
        due("13: the most", Check.with("house 2 1 6;").slips(9999, 0), 6);
        due("13: all stays", x.heard(0), 17242618 % 21 - 10);
        Check.hear(x, 32767, -32768);
        for (int n = 0; n < 60; n++) {
            x.slips(9999, -n);
            due("13: within", x.heard(0) >= -32768 && x.heard(0) <= 32767, true);
        }
        Check.hear(x, 0, 0);
        x.slips(10, -1);
        long first = ((1103515245L * -1 + 12345) % (1L << 31) + (1L << 31)) % (1L << 31);
        due("13: a seed below 0", x.heard(0), first / 64 % 21 - 10);
        Check.hear(x, 32767, 32767);
        x.slips(9999, 3);
        long one = (1103515245L * 3 + 12345) % (1L << 31);
        due("13: up to the most", x.heard(0), Math.min(32767, 32767 + one / 64 % 19999 - 9999));
    }

    private static void p14Nearest() {
        ManyOut x = Check.with("house 3 2 1; row 1 1;");
        // Sent are -4, -2, 0, -2, 0, 2, 0, 2, 4: with 1 heard those of 0 and 2 are as near.
        Check.hear(x, 1);
        int[][] rows = {{-2, 2}, {0, 0}, {0, 2}, {2, -2}, {2, 0}, {-2, 0}, {0, -2}, {2, 2}, {-2, -2}};
        for (int k = 0; k < 9; k++) {
            due("14: nearest(" + k + ", 0)", x.nearest(k, 0), rows[k][0]);
            due("14: nearest(" + k + ", 1)", x.nearest(k, 1), rows[k][1]);
        }
        due("14: there are nine", x.nearest(9, 0), NOTHING);
        due("14: none such", x.nearest(-1, 0), NOTHING);
        due("14: no sender", x.nearest(0, 2), NOTHING);
        due("14: no sender", x.nearest(0, -1), NOTHING);
        x = Check.with("house 4 2 1; row 0 0;");
        due("14: the tenth", x.nearest(9, 0), 1);
        due("14: the tenth", x.nearest(9, 1), -1);
        due("14: ten at most", x.nearest(10, 0), NOTHING);
    }

    private static void p15Near() {
        ManyOut x = Check.with("house 3 2 1; row 1 1;");
        Check.hear(x, 1);
        long[] all = {1, 1, 1, 1, 1, 9, 9, 9, 25, -1, -1};
        for (int k = 0; k < 11; k++) {
            due("15: near(" + k + ")", x.near(k), all[k]);
        }
        due("15: none such", x.near(-1), -1);
        Check.hear(x, -4);
        due("15: heard anew", x.near(0), 0);
        send(x, 2, 2);
        due("15: sent anew", x.near(1), 4);
        x.slips(9999, 1);
        due("15: slipped", x.near(0), (long) (Math.abs(x.heard(0)) - 4) * (Math.abs(x.heard(0)) - 4));
    }

    private static void p16Within() {
        ManyOut x = Check.with("house 3 2 1; row 1 1;");
        Check.hear(x, 1);
        due("16: within(0)", x.within(0), 0);
        due("16: within(1)", x.within(1), 5);
        due("16: within(8)", x.within(8), 5);
        due("16: within(9)", x.within(9), 8);
        due("16: all", x.within(Long.MAX_VALUE), 9);
        due("16: below 0", x.within(-1), NONE);
        due("16: below 0", x.within(Long.MIN_VALUE), NONE);
    }

    private static void p17Cancel() {
        ManyOut x = Check.with("house 2 2 2; row 3 4; row 4 4;");
        // The second column is the greater: with 7, 8 it takes 1, what is left is 3, 4.
        Check.hear(x, 7, 8);
        due("17: cancel", x.cancel(1), 1);
        due("17: cancel", x.cancel(0), 1);
        Check.hear(x, 0, 1);
        due("17: cancel", x.cancel(1), 1);
        due("17: what is left is -4, -3", x.cancel(0), -1);
        Check.hear(x, 0, 0);
        due("17: of like ones the least", x.cancel(1), -1);
        due("17: no sender", x.cancel(2), NOTHING);
        due("17: no sender", x.cancel(-1), NOTHING);
    }

    private static void p18Order() {
        ManyOut x = Check.with("house 2 4 2; row 1 3 0 5; row 2 4 0 0;");
        int[] order = {1, 3, 0, 2};
        for (int k = 0; k < 4; k++) {
            due("18: order(" + k + ")", x.order(k), order[k]);
        }
        due("18: none such", x.order(4), NONE);
        due("18: none such", x.order(-1), NONE);
    }

    private static void p19Left() {
        ManyOut x = Check.with("house 2 2 2; row 3 4; row 4 4;");
        Check.hear(x, 0, 1);
        // By cancelling -1, 1 is found, and 1, 0 is sent: a distance of 1 and 1.
        due("19: left", x.left(), 2);
        due("19: the nearest is as near", x.near(0), 2);
        x = Check.with("house 2 3 1; row 3 2 2;");
        Check.hear(x, 1);
        due("19: the greatest takes all", x.left(), 4);
        due("19: without senders", new ManyOut().left(), -1);
    }

    private static void p20Least() {
        ManyOut x = Check.with("house 3 2 1; row 1 1;");
        Check.hear(x, 4);
        due("20: least", x.least(0, 2), 0);
        due("20: least", x.least(0, 0), 4);
        due("20: least", x.least(1, -2), 16);
        due("20: no letter", x.least(0, 1), -1);
        due("20: no letter", x.least(0, 4), -1);
        due("20: no letter", x.least(0, Integer.MAX_VALUE), -1);
        due("20: no letter", x.least(0, Integer.MIN_VALUE), -1);
        due("20: no sender", x.least(2, 0), -1);
        due("20: no sender", x.least(-1, 0), -1);
    }

    private static void p21Share() {
        ManyOut x = Check.with("house 2 1 1; row 1;");
        Check.hear(x, 1);
        // The weights: 10 to the 9 / 5 and 10 to the 9.
        due("21: share", x.share(0, -1), 166);
        due("21: share", x.share(0, 1), 833);
        due("21: no letter", x.share(0, 0), NONE);
        due("21: no sender", x.share(1, 1), NONE);
        due("21: no sender", x.share(-1, 1), NONE);
        x = Check.with("house 2 2 2; row 99 1; row 98 2;");
        Check.hear(x, 32767, 32767);
        due("21: they weigh nothing", x.share(0, 1), 0);
        x = Check.with("house 8 5 1; row 0 0 0 0 0;");
        due("21: all weigh most", x.share(4, -7), 125);
    }

    private static void p22Sure() {
        ManyOut x = Check.with("house 3 2 1; row 1 3;");
        Check.hear(x, 7);
        // The nearest: 2, 2 with 8 sent, then 0, 2 with 6: as near, the first of them is 0, 2.
        due("22: the nearest", x.nearest(0, 0), 0);
        due("22: sure of the first", x.sure(0), 0);
        due("22: sure of the second", x.sure(1), 25 - 1);
        due("22: no sender", x.sure(2), -1);
        due("22: no sender", x.sure(-1), -1);
    }

    private static void p23Lead() {
        ManyOut x = Check.with("house 2 2 1; row 5 2;");
        // 10 / 4 is two and a half: nearer to 0 it is 2. Then 2 / 1 is 2.
        due("23: lead", x.lead(1), 1);
        due("23: column 0", x.table(0, 0, true), 1);
        due("23: lead", x.lead(100), 1);
        due("23: column 1", x.table(0, 1, true), 0);
        due("23: it rests", x.lead(1), 0);
        due("23: none", x.lead(0), NONE);
        due("23: below none", x.lead(-1), NONE);
        due("23: too many", x.lead(101), NONE);
        x = Check.with("house 2 2 1; row 1 2;");
        due("23: a half is no step, but 2 from 1 is", x.lead(9), 1);
        due("23: column 1", x.table(0, 1, true), 0);
        x = Check.with("house 2 2 1; row -3 2;");
        due("23: minus one and a half", x.lead(1), 1);
        due("23: goes to -1", x.step(0, 2), -1);
        x = Check.with(LONG);
        due("23: a hundred", x.lead(100), 100);
        due("23: fewer than two hundred", x.lead(99), 99);
        due("23: the last", x.lead(5), 1);
        due("23: 200 are done", x.has(7), 200);
        due("23: it rests", x.lead(1), 0);
        x.undo();
        due("23: there is room again", x.lead(3), 1);
    }

    private static void p24Undo() {
        ManyOut x = Check.with("house 2 2 1; row 5 2;");
        due("24: none", x.undo(), false);
        x.lead(2);
        due("24: undo", x.undo(), true);
        due("24: the first step stands", x.table(0, 0, true), 1);
        due("24: the second does not", x.table(0, 1, true), 2);
        due("24: nor in the leader", x.leader(0, 1), 0);
        due("24: undo", x.undo(), true);
        due("24: as at first", x.table(0, 0, true), 5);
        due("24: none", x.undo(), false);
        x = Check.with(LONG);
        x.lead(50);
        for (int n = 0; n < 40; n++) {
            due("24: undo " + n, x.undo(), true);
        }
        due("24: the last 40 alone", x.undo(), false);
        due("24: ten are done", x.has(7), 10);
    }

    private static void p25Redo() {
        ManyOut x = Check.with(LONG);
        due("25: none", x.redo(), false);
        x.lead(45);
        long all = x.squares(true);
        long leader = x.leader(3, 2);
        for (int n = 0; n < 40; n++) {
            x.undo();
        }
        due("25: 40 to redo", x.has(9), 40);
        for (int n = 0; n < 40; n++) {
            due("25: redo " + n, x.redo(), true);
        }
        due("25: none", x.redo(), false);
        due("25: as ahead", x.squares(true), all);
        due("25: as ahead", x.leader(3, 2), leader);
        x.undo();
        x.undo();
        due("25: lead that rests not", x.lead(1), 1);
        due("25: takes them away", x.redo(), false);
        due("25: none to redo", x.has(9), 0);
        x = Check.with("house 2 2 1; row 5 2;");
        x.lead(2);
        x.undo();
        x.lead(0);
        due("25: no step, none taken away", x.redo(), true);
        x.undo();
        x.lead(1);
        due("25: a step", x.redo(), false);
    }

    private static void p26Leader() {
        ManyOut x = Check.with("house 2 2 1; row 5 2;");
        due("26: 1 at first", x.leader(0, 0), 1);
        due("26: 0 at first", x.leader(1, 0), 0);
        x.lead(2);
        // Column 0 less 2 times column 1; then column 1 less 2 times that.
        long[] all = {1, -2, -2, 5};
        for (int k = 0; k < 4; k++) {
            due("26: leader", x.leader(k / 2, k % 2), all[k]);
        }
        due("26: no row", x.leader(2, 0), NOTHING);
        due("26: no row", x.leader(-1, 0), NOTHING);
        due("26: no column", x.leader(0, 2), NOTHING);
        due("26: no column", x.leader(0, -1), NOTHING);
        x = Check.with(LONG);
        for (int n = 0; n < 4; n++) {
            x.lead(50);
            for (int r = 0; r < 4; r++) {
                for (int c = 0; c < 5; c++) {
                    long sum = 0;
                    for (int s = 0; s < 5; s++) {
                        sum += x.table(r, s, false) * x.leader(s, c);
                    }
                    due("26: the table times the leader", sum, x.table(r, c, true));
                }
            }
        }
    }

    private static void p27Step() {
        ManyOut x = Check.with("house 2 2 1; row 5 2;");
        due("27: none", x.step(0, 0), NOTHING);
        x.lead(2);
        int[] all = {0, 1, 2, 1, 0, 2};
        for (int k = 0; k < 6; k++) {
            due("27: step", x.step(k / 3, k % 3), all[k]);
        }
        due("27: another what", x.step(0, 3), NOTHING);
        due("27: another what", x.step(0, -1), NOTHING);
        due("27: none such", x.step(2, 0), NOTHING);
        due("27: none such", x.step(-1, 0), NOTHING);
        x.undo();
        due("27: undone", x.step(1, 0), NOTHING);
        x = Check.with(LONG);
        x.lead(41);
        int[] second = {x.step(1, 0), x.step(1, 1), x.step(1, 2)};
        x.lead(1);
        for (int what = 0; what < 3; what++) {
            due("27: the second is now the oldest", x.step(0, what), second[what]);
        }
        due("27: the last of 40", x.step(39, 0) >= 0, true);
        due("27: none such", x.step(40, 0), NOTHING);
    }

    private static void p28Clash() {
        ManyOut x = Check.with("house 2 4 2; row 1 1 0 -2; row 2 1 0 -4;");
        due("28: 9000 / 10", x.clash(0, 1, false), 900);
        due("28: either way", x.clash(1, 0, false), 900);
        due("28: one is nothing", x.clash(0, 2, false), 0);
        due("28: quite alike", x.clash(0, 3, false), 1000);
        due("28: not unlike columns", x.clash(1, 1, false), NONE);
        due("28: none such", x.clash(0, 4, false), NONE);
        due("28: none such", x.clash(-1, 0, true), NONE);
        x.lead(1);
        due("28: led to 0, 1", x.clash(0, 1, true), 500);
        due("28: led, not so many", x.clash(0, 4, true), NONE);
    }

    private static void p29Worst() {
        ManyOut x = Check.with("house 2 4 2; row 1 1 3 2; row 2 1 0 2;");
        due("29: worst", x.worst(false), 103);
        x.lead(100);
        due("29: led", x.worst(true), 1);
        due("29: not led", x.worst(false), 103);
        x = Check.with("house 2 4 2; row 0 1 1 1; row 1 0 0 0;");
        due("29: the first of like ones", x.worst(false), 102);
        due("29: one sender", Check.with("house 2 1 1; row 1;").worst(false), NONE);
        due("29: two of nothing", Check.with("house 2 2 1;").worst(false), 1);
    }

    private static void p30Squares() {
        ManyOut x = Check.with("house 2 2 1; row 5 2;");
        due("30: squares", x.squares(false), 29);
        due("30: squares", x.squares(true), 29);
        x.lead(1);
        due("30: led", x.squares(true), 5);
        due("30: not led", x.squares(false), 29);
        x = Check.with("house 2 5 6;" + "row 99 -99 99 -99 99;".repeat(6));
        due("30: the most", x.squares(false), 30 * 9801);
    }

    private static void p31Sums() {
        ManyOut x = Check.with("house 2 3 2; row 4 7 1; row 0 1 5;");
        // -1 times the first and 1 times the second make 3, 1; -2 and 1 make -1, 1: the least with m 2.
        due("31: m 1", x.sums(7, 1, NONE), 10);
        due("31: its first", x.sums(7, 1, 0), -1);
        due("31: its second", x.sums(7, 1, 1), 1);
        due("31: its third", x.sums(7, 1, 2), 0);
        due("31: m 2", x.sums(7, 2, NONE), 2);
        due("31: its first", x.sums(7, 2, 0), -2);
        due("31: its second", x.sums(7, 2, 1), 1);
        due("31: without the second", x.sums(5, 2, NONE), 16);
        due("31: its first", x.sums(5, 2, 0), -1);
        due("31: another's", x.sums(5, 2, 1), 0);
        due("31: no senders", x.sums(0, 1, NONE), NOTHING);
        due("31: senders that are not", x.sums(8, 1, NONE), NOTHING);
        due("31: senders below 0", x.sums(-1, 1, NONE), NOTHING);
        due("31: m 0", x.sums(7, 0, NONE), NOTHING);
        due("31: m 3", x.sums(7, 3, NONE), NOTHING);
        due("31: no such sender", x.sums(7, 1, 3), NOTHING);
        due("31: no such sender", x.sums(7, 1, -2), NOTHING);
        due("31: as short", Check.with("house 2 2 1; row 2 4;").sums(3, 1, NONE), 4);
        due("31: the first such row", Check.with("house 2 2 1; row 2 4;").sums(3, 1, 0), -1);
        due("31: the first such row", Check.with("house 2 2 1; row 2 4;").sums(3, 1, 1), 0);
        x.lead(9);
        due("31: of the table, led or not", x.sums(7, 1, NONE), 10);
    }

    private static void p32Apart() {
        ManyOut x = Check.with("house 2 2 1; row 3 5;");
        // By -2, 0, 2 of each: 2 times 5 less 2 times 3 is 4.
        due("32: both", x.apart(3), 16);
        due("32: the first", x.apart(1), 36);
        due("32: the second", x.apart(2), 100);
        due("32: none", x.apart(0), -1);
        due("32: not so many", x.apart(4), -1);
        due("32: below 0", x.apart(-1), -1);
        Check.house(x, "house 3 2 1; row 3 5;");
        // By -4 .. 4: 4 times 3 less 2 times 5 is 2.
        due("32: more letters", x.apart(3), 4);
        Check.house(x, "house 6 2 1; row 3 5;");
        due("32: nothing at all", x.apart(3), 0);
    }

    private static void p33Word() {
        ManyOut x = Check.with("house 4 2 1; word 3 -1; word -3 1;");
        due("33: word", x.word(0, 0), 3);
        due("33: word", x.word(0, 1), -1);
        due("33: word", x.word(1, 0), -3);
        due("33: no word", x.word(2, 0), NOTHING);
        due("33: no word", x.word(-1, 0), NOTHING);
        due("33: no sender", x.word(0, 2), NOTHING);
        due("33: no sender", x.word(0, -1), NOTHING);
    }

    private static void p34Code() {
        ManyOut x = Check.with("house 4 1 1; row 2; word 3; word 1; word -3; word -1;");
        due("34: the least worth", x.code(0), 16);
        due("34: how many have it", x.code(1), 3);
        due("34: the first", x.code(2), 1);
        due("34: power", x.code(3), 9);
        due("34: for others", x.code(4), -1);
        due("34: for others", x.code(-1), -1);
        Check.house(x, "house 4 1 1; row 2; word 1;");
        due("34: one word", x.code(0), -1);
        due("34: one word", x.code(1), -1);
        due("34: one word", x.code(2), -1);
        due("34: its power", x.code(3), 1);
        Check.house(x, "house 4 2 1; row 2 1; word 1 1; word 3 -1; word 1 1; word -1 1;");
        due("34: like ones", x.code(0), 0);
        due("34: one pair", x.code(1), 1);
        due("34: it", x.code(2), 2);
        due("34: power", x.code(3), 10);
        Check.house(x, "house 4 1 1; row 2;" + "word 1;".repeat(16));
        due("34: all pairs", x.code(1), 120);
        Check.house(x, "house 3 1 1; row 2; word 0;");
        due("34: no power", x.code(3), 0);
        Check.house(x, "house 3 1 1; row 2;");
        due("34: no words", x.code(3), -1);
    }

    private static void p35Decode() {
        ManyOut x = Check.with("house 4 1 1; row 2; word 3; word -1; word -1; word 1;");
        Check.hear(x, -9);
        due("35: decode", x.decode(), 1);
        Check.hear(x, 0);
        due("35: the first of like ones", x.decode(), 1);
        Check.hear(x, 4);
        due("35: the first of like ones", x.decode(), 0);
        Check.hear(x, 3);
        due("35: decode", x.decode(), 3);
        due("35: without", Check.with("house 2 1 1;").decode(), NONE);
    }

    private static void p36Leave() {
        ManyOut x = Check.with("house 8 1 1; row 1; word 7; word -7; word -5; word 1;");
        // Without the second or the third the least is the one of 7 and 1, or of -5 and 1: both 36.
        due("36: leave", x.leave(0), 1);
        due("36: that worth", x.leave(1), 36);
        due("36: for others", x.leave(2), -1);
        due("36: for others", x.leave(-1), -1);
        Check.house(x, "house 8 1 1; row 1; word 7; word 7; word 7;");
        due("36: the first of like ones", x.leave(0), 0);
        due("36: that worth", x.leave(1), 0);
        Check.house(x, "house 8 1 1; row 1; word 7; word 5;");
        due("36: two words", x.leave(0), -1);
        due("36: two words", x.leave(1), -1);
    }

    private static void p37Behind() {
        ManyOut x = Check.with("house 3 2 1; row 1 1; word -2 2; word 2 0; word -2 -2; word 0 0;");
        Check.hear(x, 1);
        due("37: the nearest", x.behind(0), 0);
        due("37: the fifth", x.behind(1), 4);
        due("37: the last", x.behind(2), 8);
        due("37: the second", x.behind(3), 1);
        due("37: none such", x.behind(4), NONE);
        due("37: none such", x.behind(-1), NONE);
    }

    private static void p38Unlike() {
        ManyOut x = Check.with("house 3 3 1; word 0 0 2; word 2 0 0; word 0 0 2;");
        due("38: unlike", x.unlike(0, 1), 2);
        due("38: like", x.unlike(0, 2), 0);
        due("38: the same", x.unlike(1, 1), 0);
        due("38: none such", x.unlike(0, 3), NONE);
        due("38: none such", x.unlike(-1, 0), NONE);
    }

    private static void p39Span() {
        ManyOut x = Check.with("house 4 1 1; row 2; limit 0;");
        due("39: the least", x.span(false), 4);
        due("39: the greatest", x.span(true), 36);
        Check.house(x, "house 2 2 1; row 4 1;");
        // 4 and 1 less 4 (or -4 and -1 and 4) is 1; 4 less 1 goes with 4 times -1 and back 5: -1 at best.
        due("39: the least", x.span(false), 1);
        due("39: the greatest", x.span(true), 1);
        Check.house(x, "house 3 5 6; row 1 2 3 4 5; row 9 9 9 9 9;");
        due("39: the row of 0", x.span(false), 0);
        due("39: without senders", new ManyOut().span(true), -1);
        due("39: without senders", new ManyOut().span(false), -1);
    }

    private static void p40Ahead() {
        ManyOut x = Check.with("house 2 2 1; row 4 1;");
        // 4 - 1 = 3: with 4 times 1 for the second it is 7, with -4 it is -1.
        due("40: ahead", ahead(x, 1, -1), 1);
        due("40: the tape went", x.end(1), false);
        due("40: no letter", ahead(x, 1, 0), -1);
        due("40: too few", ahead(x, 1), -1);
        due("40: none", x.ahead(), -1);
        Check.house(x, "house 2 1 2; row 31; row 9; limit 1;");
        due("40: above the limit", ahead(x, 1), -1);
        Check.house(x, "house 2 1 3; row 30; row 10; row 0; limit 1;");
        due("40: at the limit", ahead(x, 1), 1000);
        Check.house(x, "house 2 1 3; row 30; row 10; row 1; limit 1;");
        due("40: above it", ahead(x, 1), -1);
        Check.house(x, "house 2 1 3; limit 0;");
        due("40: nothing", ahead(x, 1), 0);
    }

    private static void p41Put() {
        ManyOut x = Check.with("house 2 2 1; row 4 1;");
        due("41: ahead of any", x.put(0), NOTHING);
        ahead(x, 1, -1);
        due("41: put", x.put(0), 0);
        due("41: put", x.put(1), -1);
        due("41: none such", x.put(2), NOTHING);
        due("41: none such", x.put(-1), NOTHING);
        ahead(x, 1, 0);
        due("41: the latest was -1", x.put(0), NOTHING);
        Check.house(x, "house 2 2 1; row 0 0;");
        due("41: nothing was put", x.put(0), NOTHING);
        ahead(x, 1, 1);
        due("41: of like ones the first", x.put(0), -1);
        due("41: of like ones the first", x.put(1), -1);
        x.span(true);
        x.span(false);
        due("41: span puts nothing", x.put(1), -1);
        Check.house(x, "house 2 2 1; row 1 1; limit 0;");
        due("41: 1 and -1", ahead(x, 1, -1), 0);
        // -1 and 1: -3 and 3; both as they are: 1 and -1; the first of like ones.
        due("41: put", x.put(0), -1);
        due("41: put", x.put(1), 1);
        ahead(x, 1, 1);
        due("41: 1 and 1 can't be below 4", x.put(0), NOTHING);
        Check.house(x, "house 2 2 1; row 3 1;");
        due("41: -3 and 1, or -3 and 5", ahead(x, -1, 1), 4);
        due("41: the first of both", x.put(0), 0);
        due("41: the first of both", x.put(1), 0);
    }

    private static void worth(String rule, int... due) {
        ManyOut x = Check.with("house 2 3 2; row 3 -9 0; " + rule + " row -4 8 0;");
        for (int s = 0; s < 3; s++) {
            due("42: " + rule + " of " + s, x.worth(s), due[s]);
        }
    }

    private static void p42Worth() {
        worth("", 0, 0, 0);
        worth("worth sender when all;", 0, 1, 2);
        worth("worth square when all;", 25, 145, 0);
        worth("worth peak when all;", 4, 9, 0);
        worth("worth 5 when sender = 1; worth 7 when all;", 7, 5, 7);
        worth("worth 5 when sender > 1; worth 7 when sender < 1;", 7, 0, 5);
        worth("worth 2 + 3 * 4 - 1 when all;", 13, 13, 13);
        worth("worth 20 - 5 - 5 when all;", 10, 10, 10);
        worth("worth 100 / 7 / 2 * 3 when all;", 21, 21, 21);
        worth("worth (2 + 3) * 4 when all;", 20, 20, 20);
        worth("worth (0 - 7) / 2 when all;", -4, -4, -4);
        worth("worth 7 / (0 - 2) when all;", -4, -4, -4);
        worth("worth 7 / sender when all;", 0, 7, 3);
        worth("worth min(sender, 1) + max(peak, 5) when all;", 5, 10, 6);
        worth("worth 9999 * 9999 when all;", 1000000, 1000000, 1000000);
        worth("worth 0 - 9999 * 9999 - 1 when all;", -1000000, -1000000, -1000000);
        worth("worth 9999 * 9999 + 1 - 1 when all;", 999999, 999999, 999999);
        worth("worth (0 - 9999) * 9999 - 1 + 1 when all;", -999999, -999999, -999999);
        worth("worth 1 when not all;", 0, 0, 0);
        worth("worth 1 when not sender = 0 and sender < 2 or sender = 0;", 1, 1, 0);
        worth("worth 1 when sender = 0 or sender = 1 and sender = 2;", 1, 0, 0);
        worth("worth 1 when [sender = 0 or sender = 1] and not sender = 0;", 0, 1, 0);
        worth("worth 1 when not [sender = 0 or sender = 1];", 0, 0, 1);
        worth("worth 1 when not sender = 0 or sender = 0;", 1, 1, 1);
        ManyOut x = Check.with(THREE);
        due("42: no sender", x.worth(3), NOTHING);
        due("42: no sender", x.worth(-1), NOTHING);
    }

    private static void p43Chosen() {
        ManyOut x = Check.with("house 2 3 1; row 3 5 8; worth 5 when sender = 0; worth 2 when all;");
        due("43: one", x.chosen(1, 0), 1);
        due("43: one, 36 apart", x.chosen(1, 36), 1);
        due("43: one, further apart", x.chosen(1, 37), 2);
        due("43: one, further apart", x.chosen(1, 101), 4);
        due("43: one, too far", x.chosen(1, 257), NONE);
        due("43: two", x.chosen(2, 0), 3);
        // 3 and 5 are 16 apart, 3 and 8 are 36 (by 3 alone), 5 and 8 are 36 (by their difference).
        due("43: two, 16 apart", x.chosen(2, 16), 3);
        due("43: two, 17 apart", x.chosen(2, 17), 5);
        due("43: two, 36 apart", x.chosen(2, 36), 5);
        due("43: two, 37 apart", x.chosen(2, 37), NONE);
        due("43: three", x.chosen(3, 0), 7);
        due("43: three are not apart", x.chosen(3, 1), NONE);
        due("43: four", x.chosen(4, 0), NONE);
        due("43: none", x.chosen(0, 0), NONE);
        due("43: six", x.chosen(6, 0), NONE);
        due("43: below 0", x.chosen(1, -1), NONE);
        due("43: too far", x.chosen(1, Long.MAX_VALUE), NONE);
        x = Check.with("house 2 2 1; row 3 5; worth 0 - 5 when sender = 0; worth 0 - 9 when all;");
        due("43: worths below 0", x.chosen(1, 0), 1);
        due("43: both", x.chosen(2, 0), 3);
    }

    private static void p44Image() {
        ManyOut x = Check.with("house 2 2 3; row 5 2;");
        Check.hear(x, 258, -2, 0);
        x.lead(2);
        due("44: image", x.image(), 8);
        int[] all = {1, 2, 255, 254, 0, 0, 2, 0};
        int c = 51;
        for (int k = 0; k < 7; k++) {
            due("44: octet(" + k + ")", x.octet(k), all[k]);
            c = (7 * c + all[k]) % 253;
        }
        due("44: the last", x.octet(7), c);
        x = Check.with(LONG);
        x.lead(100);
        x.lead(100);
        x.image();
        due("44: 200 steps", x.octet(8), 200);
    }

    private static void p45Octet() {
        ManyOut x = Check.with("house 2 2 3; row 5 2;");
        due("45: ahead of any", x.octet(0), NONE);
        x.image();
        due("45: none such", x.octet(8), NONE);
        due("45: none such", x.octet(-1), NONE);
        Check.hear(x, 9, 9, 9);
        due("45: the latest image", x.octet(1), 0);
        Check.house(x, "house 2 2 1; row 5 2;");
        due("45: the latest image", x.octet(7) >= 0, true);
        due("45: image", x.image(), 4);
        due("45: none such", x.octet(4), NONE);
    }

    private static int[] imageOf(int... ahead) {
        int[] all = java.util.Arrays.copyOf(ahead, ahead.length + 1);
        int c = 51;
        for (int b : ahead) {
            c = (7 * c + (b & 255)) % 253;
        }
        all[ahead.length] = c;
        return all;
    }

    private static boolean on(ManyOut x, int... bytes) {
        Check.tape(x, bytes);
        return x.on();
    }

    private static void p46On() {
        ManyOut x = Check.with("house 2 2 1; row 5 2;");
        due("46: on", on(x, imageOf(1, 2, 2)), true);
        due("46: the tape went", x.end(1), false);
        due("46: heard", x.heard(0), 258);
        due("46: near", x.near(0), (258L - 7) * (258 - 7));
        due("46: steps", x.has(7), 2);
        due("46: led", x.table(0, 1, true), 0);
        due("46: leader", x.leader(1, 1), 5);
        due("46: one step", on(x, imageOf(255, 255, 1)), true);
        due("46: heard", x.heard(0), -1);
        due("46: led", x.table(0, 1, true), 2);
        due("46: none to redo", x.has(9), 0);
        due("46: three steps", on(x, imageOf(0, 5, 3)), false);
        int[] bad = imageOf(0, 5, 1);
        bad[3] = (bad[3] + 1) % 253;
        due("46: another last byte", on(x, bad), false);
        due("46: too few", on(x, imageOf(0, 1)), false);
        due("46: too many", on(x, imageOf(0, 0, 0, 0, 1)), false);
        due("46: none", x.on(), false);
        due("46: all stays", x.heard(0), -1);
        due("46: all stays", x.has(7), 1);
        due("46: all stays", x.table(0, 0, true), 1);
        x = Check.with(LONG);
        int[] zero = new int[9];
        for (int steps : new int[] {200, 201, 255, 39, 40, 41, 0}) {
            zero[8] = steps;
            due("46: " + steps + " steps", on(x, imageOf(zero)), steps <= 200);
            if (steps <= 200) {
                due("46: steps done", x.has(7), steps);
                due("46: the last 40", x.has(8), Math.min(40, steps));
                due("46: none to redo", x.redo(), false);
            }
        }
        due("46: led as the table", x.squares(true), x.squares(false));
    }

    public static void main(String[] args) {
        p1New();
        p2Feed();
        p3End();
        p4House();
        p5Fault();
        p6Has();
        p7Table();
        p8Product();
        p9Hear();
        p10Heard();
        p11Send();
        p12Distance();
        p13Slips();
        p14Nearest();
        p15Near();
        p16Within();
        p17Cancel();
        p18Order();
        p19Left();
        p20Least();
        p21Share();
        p22Sure();
        p23Lead();
        p24Undo();
        p25Redo();
        p26Leader();
        p27Step();
        p28Clash();
        p29Worst();
        p30Squares();
        p31Sums();
        p32Apart();
        p33Word();
        p34Code();
        p35Decode();
        p36Leave();
        p37Behind();
        p38Unlike();
        p39Span();
        p40Ahead();
        p41Put();
        p42Worth();
        p43Chosen();
        p44Image();
        p45Octet();
        p46On();
        CHECK.end();
    }
}
