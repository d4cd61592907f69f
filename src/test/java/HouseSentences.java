/** Terms I: the text of a house, its bounds, its faults. */
final class HouseSentences {
    private final Sentences t;

    HouseSentences(Sentences t) {
        this.t = t;
    }

    void all() {
        t.from("## Terms");
        statements();
        sizes();
        rows();
        words();
        rules();
        limits();
        signed();
        tests();
        sums();
        parts();
        reckoning();
        blanks();
        syntax();
        wholeTokens();
        numbers();
        opened();
        tooMany();
    }

    private static String worthOf(String sum) {
        return "house 2 3 2; row 3 -9 0; row -4 8 0; worth " + sum + " when all;";
    }

    /** The worth of a sum for three senders: columns (3, -4), (-9, 8), nothing. */
    private void sum(String sum, int... due) {
        ManyOut x = Check.with(worthOf(sum));
        for (int s = 0; s < 3; s++) {
            t.due(sum + " for " + s, x.worth(s), due[due.length == 1 ? 0 : s]);
        }
    }

    /** For which of three senders a test holds, as bits. */
    private void test(String test, int bits) {
        ManyOut x = Check.with("house 2 3 2; row 3 -9 0; row -4 8 0; worth 1 when " + test + ";");
        int holds = x.worth(0) + 2 * x.worth(1) + 4 * x.worth(2);
        t.due(test, holds, bits);
    }

    private void rule(int fault, String marked) {
        t.fault(fault, "house 3 2 2; worth " + marked);
    }

    private void statements() {
        t.say("A HOUSE is a text: { STATEMENT ; } (60 at most):");
        t.good("house 2 1 1;", 1);
        t.good("house 2 1 1;limit 5;", 2);
        t.good("house 2 1 1;" + "limit 1;".repeat(58), 59);
        t.good("house 2 1 1;" + "limit 1;".repeat(59), 60);
        t.fault(4, "house 2 1 1;" + "limit 1;".repeat(59) + "|limit 1;");
        t.fault(1, "house 2 1 1|");
        t.fault(1, "house 2 1 1; limit 5|");
        t.fault(1, "house 2 1 1 |limit 5;");
        t.fault(1, "house 2 1 1;|; limit 5;");
    }

    private void sizes() {
        t.say("house N N N (LETTERS 2 .. 8, SENDERS 1 .. 5, RECEIVERS 1 .. 6; the first STATEMENT, and it alone);");
        ManyOut x = new ManyOut();
        for (int letters = 2; letters <= 8; letters++) {
            t.due("letters " + letters, Check.house(x, "house " + letters + " 1 1;"), 1);
            t.due("letters", x.has(0), letters);
        }
        for (int senders = 1; senders <= 5; senders++) {
            t.due("senders " + senders, Check.house(x, "house 2 " + senders + " 1;"), 1);
            t.due("senders", x.has(1), senders);
        }
        for (int receivers = 1; receivers <= 6; receivers++) {
            t.due("receivers " + receivers, Check.house(x, "house 2 1 " + receivers + ";"), 1);
            t.due("receivers", x.has(2), receivers);
        }
        t.fault(2, "house |1 1 1;");
        t.fault(2, "house |0 1 1;");
        t.fault(2, "house |9 1 1;");
        t.fault(2, "house |9999 1 1;");
        t.fault(2, "house 2 |0 1;");
        t.fault(2, "house 2 |6 1;");
        t.fault(2, "house 2 1 |0;");
        t.fault(2, "house 2 1 |7;");
        t.fault(1, "|row 1; house 2 1 1;");
        t.fault(1, "|word 1;");
        t.fault(1, "|worth 1 when all;");
        t.fault(1, "|limit 1; house 2 1 1;");
        t.fault(1, "house 2 1 1; |house 2 1 1;");
        t.fault(1, "house 2 1 1; row 5; |house 2 1 1;");
        t.fault(1, "house 2 1|;");
        t.fault(1, "house 2 1 1 |1;");
        t.fault(1, "house |-2 1 1;");
    }

    private void rows() {
        t.say("row S .. S (as many as SENDERS, -99 .. 99; THE TABLE, RECEIVER by RECEIVER, 0 where none is told; "
            + "as many as RECEIVERS at most);");
        ManyOut x = Check.with("house 2 5 6; row 1 2 3 4 5; row 99 -99 0 98 -98;");
        int[][] table = {{1, 2, 3, 4, 5}, {99, -99, 0, 98, -98}, {}, {}, {}, {}};
        for (int r = 0; r < 6; r++) {
            for (int s = 0; s < 5; s++) {
                t.due("table " + r + " " + s, x.table(r, s, false), table[r].length == 0 ? 0 : table[r][s]);
            }
        }
        t.fault(2, "house 2 2 2; row |100 1;");
        t.fault(2, "house 2 2 2; row |-100 1;");
        t.fault(2, "house 2 2 2; row 1 |100;");
        t.fault(2, "house 2 2 2; row 1 |-100;");
        t.fault(1, "house 2 2 2; row 1|;");
        t.fault(1, "house 2 2 2; row|;");
        t.fault(1, "house 2 2 2; row 1 2 |3;");
        t.fault(1, "house 2 2 2; row 1 2 |-3;");
        t.good("house 2 1 6;" + "row 1;".repeat(6), 7);
        t.fault(4, "house 2 1 6;" + "row 1;".repeat(6) + "|row 1;");
        t.good("house 2 1 1; row 1;", 2);
        t.fault(4, "house 2 1 1; row 1; |row 1;");
        // What an earlier house told is gone.
        Check.house(x, "house 2 5 6; row 7 7 7 7 7;");
        t.due("told now", x.table(0, 4, false), 7);
        t.due("told earlier", x.table(1, 0, false), 0);
        t.due("told earlier, led", x.table(1, 0, true), 0);
    }

    private void words() {
        t.say("word S .. S (as many as SENDERS, each a LETTER; 16 WORDS);");
        ManyOut x = Check.with("house 8 5 1; word -7 -5 -3 -1 1; word 3 5 7 7 7;");
        int[][] words = {{-7, -5, -3, -1, 1}, {3, 5, 7, 7, 7}};
        for (int s = 0; s < 5; s++) {
            t.due("word 0 " + s, x.word(0, s), words[0][s]);
            t.due("word 1 " + s, x.word(1, s), words[1][s]);
        }
        t.fault(2, "house 8 1 1; word |8;");
        t.fault(2, "house 8 1 1; word |9;");
        t.fault(2, "house 8 1 1; word |-8;");
        t.fault(2, "house 8 1 1; word |-9;");
        t.fault(2, "house 8 1 1; word |6;");
        t.fault(2, "house 8 1 1; word |0;");
        t.fault(2, "house 8 1 1; word |- 0;");
        t.good("house 7 1 1; word 6; word -6; word 0; word - 0;", 5);
        t.fault(2, "house 7 1 1; word |7;");
        t.fault(2, "house 7 1 1; word |-7;");
        t.fault(2, "house 7 1 1; word |5;");
        t.fault(1, "house 2 2 1; word 1|;");
        t.fault(1, "house 2 2 1; word 1 1 |1;");
        t.good("house 2 1 1;" + "word 1;".repeat(16), 17);
        t.fault(4, "house 2 1 1;" + "word 1;".repeat(16) + "|word 1;");
    }

    private void rules() {
        t.say("worth SUM when TEST (8 RULES);");
        t.good("house 2 1 1;" + "worth 1 when all;".repeat(8), 9);
        t.fault(4, "house 2 1 1;" + "worth 1 when all;".repeat(8) + "|worth 1 when all;");
        rule(1, "5|;");
        rule(1, "|when all;");
        rule(1, "5 when|;");
        rule(1, "5 when all |when all;");
        ManyOut x = Check.with("house 2 1 1; worth 1 when not all; worth 2 when not all; worth 3 when not all;"
            + "worth 4 when not all; worth 5 when not all; worth 6 when not all; worth 7 when not all; worth 8 when all;");
        t.due("the eighth", x.worth(0), 8);
        for (int n = 0; n < 3; n++) {
            Check.house(x, "house 2 1 1;");
            t.due("rules of an earlier house", x.has(5), 0);
            t.due("rules of an earlier house", x.worth(0), 0);
        }
        Check.house(x, "house 2 1 1;" + "worth 1 when not all;".repeat(8));
        t.due("none of eight", x.worth(0), 0);
        // The longest rules there are, house after house.
        for (int n = 1; n <= 6; n++) {
            x = n == 4 ? new ManyOut() : x;
            String sum = "9" + ("+" + n).repeat(770);
            t.due("a long rule", Check.house(x, "house 2 1 1; worth " + sum + " when 1 > 0;"), 2);
            t.due("a long rule", x.worth(0), 9 + 770 * n);
        }
    }

    private void limits() {
        t.say("limit N (0 .. 9999; the last one counts; 9999 without).");
        ManyOut x = Check.with("house 2 1 1; limit 0;");
        t.due("limit 0", x.has(6), 0);
        Check.house(x, "house 2 1 1; limit 9999;");
        t.due("limit 9999", x.has(6), 9999);
        Check.house(x, "house 2 1 1; limit 9; limit 5; limit 7;");
        t.due("the last one", x.has(6), 7);
        t.due("it is statements all", Check.house(x, "house 2 1 1; limit 9; limit 5; limit 7;"), 4);
        Check.house(x, "house 2 1 1;");
        t.due("without", x.has(6), 9999);
        t.fault(1, "house 2 1 1; limit |-1;");
        t.fault(1, "house 2 1 1; limit 1000|0;");
        t.fault(1, "house 2 1 1; limit|;");
        t.fault(1, "house 2 1 1; limit 5 |5;");
    }

    private void signed() {
        t.say("S is a NUMBER, or - and a NUMBER (the sign may be parted from it by blanks).");
        ManyOut x = Check.with("house 2 4 1; row 5 -6 - 7 - \n 8;");
        t.due("5", x.table(0, 0, false), 5);
        t.due("-6", x.table(0, 1, false), -6);
        t.due("- 7", x.table(0, 2, false), -7);
        t.due("-, blanks, 8", x.table(0, 3, false), -8);
        Check.house(x, "house 2 4 1; row-1-2-3-4;");
        t.due("without blanks", x.table(0, 3, false), -4);
        t.fault(1, "house 2 1 1; row -|-5;");
        t.fault(1, "house 2 1 1; row |+5;");
        t.fault(1, "house 2 1 1; row - |;");
        t.fault(1, "house 2 1 1; word -|x;");
    }

    private void tests() {
        t.say("TEST: BOTH { or BOTH }.");
        test("sender = 0 or sender = 2", 5);
        test("sender = 0 or sender = 1 or sender = 2", 7);
        rule(1, "1 when all or|;");
        rule(1, "1 when |or all;");
        rule(1, "1 when all or |or all;");
        t.say("BOTH: FACT { and FACT }.");
        test("sender > 0 and sender < 2", 2);
        test("sender = 0 or sender = 1 and sender = 2", 1);
        test("sender = 1 and sender = 2 or sender = 0", 1);
        test("all and all and sender = 2", 4);
        rule(1, "1 when all and|;");
        rule(1, "1 when |and all;");
        t.say("FACT: not FACT; [ TEST ] ; all; SUM SIGN SUM, SIGN < or > or = .");
        test("all", 7);
        test("not all", 0);
        test("not not all", 7);
        test("not sender = 0", 6);
        test("not sender = 0 and sender < 2", 2);
        test("not [sender = 0 or sender = 1]", 4);
        test("[sender = 0 or sender = 1] and sender > 0", 2);
        test("sender < 1", 1);
        test("sender > 1", 4);
        test("sender = 1", 2);
        test("sender + 1 > 4 - sender", 4);
        rule(1, "1 when not|;");
        rule(1, "1 when [|];");
        rule(1, "1 when [all|;");
        rule(1, "1 when all|];");
        rule(1, "1 when 5|;");
        rule(1, "1 when 5 |! 5;");
        rule(1, "1 when 5 <|= 5;");
        rule(1, "1 when 5 < 6 |< 7;");
        rule(1, "1 when [5] < 6;".replace("[5]", "[5|]"));
        rule(1, "1 when (|all);");
        rule(1, "1 when |;");
    }

    private void sums() {
        t.say("SUM: PRODUCT { + or - PRODUCT }.");
        sum("2 + 3 - 1", 4);
        sum("2 + 3 * 4", 14);
        sum("20 - 6 / 2", 17);
        rule(1, "|+ 5 when all;");
        rule(1, "|- 5 when all;");
        rule(1, "5 + |when all;");
        rule(1, "5 + |+ 5 when all;");
        t.say("PRODUCT: PART { * or / PART }.");
        sum("2 * 3 * 4", 24);
        sum("24 / 3 * 2", 16);
        rule(1, "|* 5 when all;");
        rule(1, "5 * |when all;");
        rule(1, "5 * |- 5 when all;");
        rule(1, "5 / |/ 5 when all;");
    }

    private void parts() {
        t.say("PART: N (1 to 4 digits); sender; square; peak; ( SUM ) ; min ( SUM , SUM ) ; max ( SUM , SUM ) .");
        sum("7", 7);
        sum("9999", 9999);
        sum("0000", 0);
        sum("0012", 12);
        rule(1, "1000|0 when all;");
        rule(1, "0000|0 when all;");
        sum("(2 + 3) * 4", 20);
        sum("min(7, 3)", 3);
        sum("min(3, 7)", 3);
        sum("max(7, 3)", 7);
        sum("max(3, 7)", 7);
        sum("min(sender, 1) + 10 * max(sender, 1)", 10, 11, 21);
        sum("max(0 - 5, 0 - 6)", -5);
        sum("min(min(4, 5), max(1, 2))", 2);
        rule(1, "(|) when all;");
        rule(1, "(5 |when all;");
        rule(1, "min |5 when all;");
        rule(1, "min(5|) when all;");
        rule(1, "min(5,|) when all;");
        rule(1, "min(5,6|,7) when all;");
        rule(1, "max(|,6) when all;");
        rule(1, "(5|,6) when all;");
        rule(1, "|all when all;");
        t.say("(sender its number; square its column's squares together; peak the greatest of its column without signs.)");
        sum("sender", 0, 1, 2);
        sum("square", 25, 145, 0);
        sum("peak", 4, 9, 0);
        ManyOut x = Check.with("house 2 2 1; row 5 2; worth square + peak when all;");
        x.lead(1);
        t.due("of the table, not the led one", x.worth(0), 30);
        x = Check.with("house 2 1 6; row 99; row -99; row 99; row 99; row 99; row 99; worth square when all;");
        t.due("the most", x.worth(0), 58806);
    }

    private void reckoning() {
        t.say("All from the left on;");
        sum("20 - 5 - 5", 10);
        sum("20 - 5 + 5", 20);
        sum("100 / 10 / 5", 2);
        sum("100 / 10 * 5", 50);
        sum("7 / 2 * 2", 6);
        t.say("/ gives the greatest whole number not above, by 0 it gives 0;");
        sum("7 / 2", 3);
        sum("(0 - 7) / 2", -4);
        sum("7 / (0 - 2)", -4);
        sum("(0 - 7) / (0 - 2)", 3);
        sum("(0 - 8) / 2", -4);
        sum("0 / 5", 0);
        sum("5 / 0", 0);
        sum("0 / 0", 0);
        sum("(0 - 5) / 0", 0);
        sum("12 / sender", 0, 12, 6);
        sum("1 / 2 + 1 / 2", 0);
        t.say("each sum, difference, product above 10 to the 6 is that, below -10 to the 6 likewise.");
        sum("1000 * 1000", 1000000);
        sum("1000 * 1000 + 1", 1000000);
        sum("1000 * 1000 + 1 - 1", 999999);
        sum("1000 * 999 + 999", 999999);
        sum("1001 * 1000", 1000000);
        sum("9999 * 9999 * 9999", 1000000);
        sum("0 - 1000 * 1000", -1000000);
        sum("0 - 1000 * 1000 - 1", -1000000);
        sum("0 - 1000 * 1000 - 1 + 1", -999999);
        sum("(0 - 1001) * 1000", -1000000);
        sum("(0 - 9999) * 9999 * 9999", -1000000);
        sum("(0 - 9999) * 9999 * (0 - 9999)", 1000000);
        sum("0 - 9999 * 9999 + 9999 * 9999", 0);
        sum("9999 * 9999 / 9999", 100);
    }

    private void blanks() {
        t.say("Blanks (10, 32) are where one likes (words and numbers side by side need one).");
        t.good("\n house\n2\n2 \n 2\n;\n \nrow - 1 -\n2 ;  limit 7 ; \n", 3);
        t.good("house 2 2 2;row-1-2;word-1 1;worth(5)when[all]and[all]or not[1<2];", 4);
        t.good("house 2 2 2 ; worth min ( 1 , max ( 2 , 3 ) ) when not [ all ] ;", 2);
        t.fault(1, "house|2 2 2;");
        t.fault(1, "house 2 2 2; row|1 2;");
        t.fault(1, "house 2 2 2; limit|5;");
        t.fault(1, "house 2 2 2; limit 5|x;");
        rule(1, "5|when all;");
        rule(1, "5 when not|5 < 6;");
        rule(1, "5 when 5 < 6|and all;");
        rule(1, "5 when 5 < 6|or all;");
        rule(1, "5 |whenall;");
        rule(1, "5 when |notall;");
        rule(1, "5 when all |andall;");
        t.fault(1, "|ho use 2 2 2;");
        t.fault(1, "house 2 2 2; |ro w 1 2;");
        for (int sign = 0; sign < 256; sign++) {
            String house = "house" + (char) sign + "2 1 1;";
            if (sign == 10 || sign == 32) {
                t.good(house, 1);
            } else if (sign < 'a' || sign > 'z') {
                t.fault(1, "house|" + house.substring(5));
            } else {
                t.fault(1, "|" + house);
            }
        }
    }

    private void syntax() {
        t.say("FAULTS, the first along the text:");
        t.fault(2, "house |9 9 9; house;");
        t.fault(1, "house 2 1 1; |rows 100; row 100;");
        t.fault(2, "house 2 1 1; row |100; |%".replace(" |%", " %"));
        t.fault(4, "house 2 1 1; row 1; |row 100;");
        rule(3, "((((((|(10000))))))) when all;");
        rule(1, "((((((1000|0)))))) when all;");
        t.say("1 the first byte with which no such text goes on");
        t.fault(1, "|%");
        t.fault(1, "|H");
        t.fault(1, "|;");
        t.fault(1, "|5;");
        t.fault(1, "house |, 2 1 1;");
        t.fault(1, "house 2|; ");
        t.fault(1, "house 2 1 1|, ");
        t.fault(1, "house 2 1 1;|%");
        t.fault(1, "house 2 1 1; row |x;");
        t.fault(1, "house 2 1 1; row 5 |row 6;");
        t.fault(1, "house 2 1 1; row 5|.5;");
        rule(1, "|] when all;");
        rule(1, "5 |) when all;");
        rule(1, "5 when all |) ;");
        rule(1, "5 when (5 |] < 5;");
        for (int sign = 0; sign < 256; sign++) {
            boolean goesOn = sign == ';' || sign == 10 || sign == 32 || sign >= '0' && sign <= '9';
            if (!goesOn) {
                t.fault(1, "house 2 1 1|" + (char) sign + ";");
            }
        }
    }

    private void wholeTokens() {
        t.say("(words, of letters a .. z, and numbers whole, at their first byte; a 5th digit at itself; "
            + "at the text's length, if it ends too soon);");
        t.fault(1, "|hous");
        t.fault(1, "|housee 2 1 1;");
        t.fault(1, "|houseerow 2 1 1;");
        t.fault(1, "house 2 1 1; |limits 5;");
        t.fault(1, "house 2 1 1; |limi");
        t.fault(1, "house 2 1 1; |wor 5;");
        t.fault(1, "house 2 1 1; |words 5;");
        t.fault(1, "house 2 1 1; |worthy 5 when all;");
        t.fault(1, "house|House 2 1 1;");
        t.fault(1, "house 2 1 1; row|R 5;");
        rule(1, "|senderr when all;");
        rule(1, "|mini(5,6) when all;");
        rule(1, "5 |whe all;");
        rule(1, "5 when |alls;");
        rule(1, "5 when |no all;");
        t.fault(1, "house 2 1 1 |1234;");
        t.fault(1, "house 2 1 1; |1234;");
        t.fault(1, "house 2 1 1; |12345;");
        t.fault(1, "house 2 1 1 |12345;");
        rule(1, "5 |12345 when all;");
        t.fault(1, "house 0002|2 1 1;");
        t.fault(1, "house 2 1 1; row 0000|0;");
        t.fault(1, "house 2 1 1; row -0001|1;");
        t.fault(1, "house 2 1 1; word - 0001|1;");
        t.fault(1, "house 2 1 1; limit 9999|9;");
        t.fault(1, "house 2 1 1; limit 0000|00;");
        t.fault(1, "|");
        t.fault(1, "   |");
        t.fault(1, "\n|");
        t.fault(1, "house|");
        t.fault(1, "house |");
        t.fault(1, "house 2 1|");
        t.fault(1, "house 2 1 1 \n|");
        t.fault(1, "house 2 1 1; row|");
        t.fault(1, "house 2 1 1; row -|");
        t.fault(1, "house 2 1 1; limit|  ".replace("|  ", "  |"));
        rule(1, "(5 + |");
        rule(1, "min|");
        rule(1, "min(5,6)|");
        rule(1, "5 when [not|");
        rule(1, "5 when all|");
    }

    private void numbers() {
        t.say("2 a number that can't be, at its sign, if it has one, else at itself;");
        t.fault(2, "house |1 1 1;");
        t.fault(2, "house |0009 1 1;");
        t.fault(2, "house 2 |  6".replace("|  ", "  |"));
        t.fault(2, "house 2 1 1; row |100");
        t.fault(2, "house 2 1 1; row |9999");
        t.fault(2, "house 2 1 1; row |-100;");
        t.fault(2, "house 2 1 1; row |-  \n 100;");
        t.fault(2, "house 2 1 1; row|-100;");
        t.fault(2, "house 2 1 1; row |0100;");
        t.fault(2, "house 2 1 1; word |2;");
        t.fault(2, "house 2 1 1; word |- 2;");
        t.fault(2, "house 2 1 1; word |3;");
        t.fault(2, "house 2 1 1; row |100x;");
        t.good("house 0002 0001 0001; row 0099;", 2);
    }

    private void opened() {
        t.say("3 the 7th ( [ not that is open at once (not until its FACT ends), at it;");
        t.good("house 2 1 1; worth ((((((5)))))) when all;", 2);
        rule(3, "((((((|(5))))))) when all;");
        t.good("house 2 1 1; worth ((((((5)))))) + ((((((6)))))) when all;", 2);
        rule(3, "((((((5)))))) + ((((((|(6))))))) when all;");
        t.good("house 2 1 1; worth max(1,max(1,max(1,max(1,max(1,max(1,2)))))) when all;", 2);
        rule(3, "max(1,max(1,max(1,max(1,max(1,max(1,max|(1,2))))))) when all;");
        rule(3, "max(max(max(max(max(max(max |(1,2),3");
        t.good("house 2 1 1; worth 5 when [[[[[[all]]]]]];", 2);
        rule(3, "5 when [[[[[[|[all]]]]]]];");
        t.good("house 2 1 1; worth 5 when not not not not not not all;", 2);
        rule(3, "5 when not not not not not not |not all;");
        t.good("house 2 1 1; worth 5 when not not not not not not all or not not not not not not 1 < 2;", 2);
        t.good("house 2 1 1; worth 5 when [not [not [not all]]];", 2);
        rule(3, "5 when [not [not [not |[all]]]];");
        rule(3, "5 when [not [not [not |not all]]];");
        rule(3, "5 when [not [not [not |(5) < 6]]];");
        rule(3, "5 when [not [not [not 5 < |(6)]]];");
        rule(3, "5 when [not [not [not 5 < min|(6, 7)]]];");
        t.good("house 2 1 1; worth 5 when [[[[[not all and (5) < 6]]]]];", 2);
        t.good("house 2 1 1; worth 5 when [[[[[not 1 < 2 or not 3 < 4 and (5) < (6)]]]]];", 2);
        t.good("house 2 1 1; worth ((((((5)))))) when ((((((5)))))) < ((((((6)))))) and [[[[[[all]]]]]];", 2);
        // What was left open by a fault is not open in the next house.
        ManyOut x = new ManyOut();
        Check.house(x, "house 2 1 1; worth ((((((%");
        t.due("six anew", Check.house(x, "house 2 1 1; worth ((((((5)))))) when all;"), 2);
        // The seventh is a fault at itself, whatever comes behind it.
        rule(3, "((((((|(");
        rule(3, "((((((|(%");
        rule(1, "((((((|");
        rule(1, "5 when not not not not not not |nott all;");
    }

    private void tooMany() {
        t.say("4 one too many of a kind, a 61st STATEMENT (whatever stands there), at its first byte.");
        t.fault(4, "house 2 1 2; row 1; row 2; |row");
        t.fault(4, "house 2 1 2; row 1; row 2;|row x");
        t.fault(1, "house 2 1 2; row 1; row 2; |rows 5;");
        t.fault(4, "house 2 1 1;" + "word 1;".repeat(16) + "\n |word 9;");
        t.fault(4, "house 2 1 1;" + "worth 1 when all;".repeat(8) + "|worth");
        t.fault(1, "house 2 1 1;" + "worth 1 when all;".repeat(8) + "|worths");
        t.good("house 2 1 1;" + "worth 1 when all;".repeat(8) + "word 1;".repeat(16) + "row 1;" + "limit 1;".repeat(34), 60);
        String sixty = "house 2 1 1;" + "limit 1;".repeat(59);
        t.good(sixty + " \n ", 60);
        t.fault(4, sixty + "|limit 1;");
        t.fault(4, sixty + " |row 1;");
        t.fault(4, sixty + " |x");
        t.fault(4, sixty + " |house 2 1 1;");
        t.fault(4, sixty + "\n|;");
        t.fault(4, sixty + "|12345;");
        t.fault(4, sixty + "|" + (char) 0);
        t.fault(4, sixty + "|" + (char) 255);
        t.fault(1, "house 2 1 1;" + "limit 1;".repeat(58) + "limit 1|");
        t.fault(1, "house 2 1 1;" + "limit 1;".repeat(58) + "|x");
    }
}
