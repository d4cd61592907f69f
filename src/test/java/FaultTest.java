/** Texts of houses with the fault and the place that are due. */
public final class FaultTest {
    private static final Check CHECK = new Check();

    private static void fault(String text, int fault, int place) {
        ManyOut x = new ManyOut();
        CHECK.due("house of " + text, Check.house(x, text), ManyOut.NONE);
        CHECK.due("fault of " + text, x.fault(0), fault);
        CHECK.due("place of " + text, x.fault(1), place);
        CHECK.due("letters with " + text, x.has(0), 0);
    }

    /** The fault at the sign |, which is not in the text. */
    private static void at(int fault, String marked) {
        int place = marked.indexOf('|');
        fault(marked.substring(0, place) + marked.substring(place + 1), fault, place);
    }

    private static void good(String text, int statements) {
        ManyOut x = new ManyOut();
        CHECK.due("house of " + text, Check.house(x, text), statements);
        CHECK.due("fault of " + text, x.fault(0), 0);
        CHECK.due("place of " + text, x.fault(1), ManyOut.NONE);
    }

    private static void rule(int fault, String marked) {
        at(fault, "house 3 2 2; worth " + marked);
    }

    private static void ends() {
        at(1, "|");
        at(1, " \n |");
        at(1, "house|");
        at(1, "house 2|");
        at(1, "house 2 |");
        at(1, "house 2 2 2|");
        at(1, "house 2 2 2; row 1 2|");
        at(1, "house 2 2 2; row -|");
        at(1, "house 2 2 2; row - |");
        at(1, "|hous");
        at(1, "|;");
        at(1, "house 2 2 2;|;");
    }

    private static void words() {
        at(1, "|row 1 2;");
        at(1, "|limit 5;");
        at(1, "|House 2 2 2;");
        at(1, "|houses 2 2 2;");
        at(1, "house 2 2 2; |house 2 2 2;");
        at(1, "house 2 2 2; |ro 1 2;");
        at(1, "house 2 2 2; |rows 1 2;");
        at(1, "house 2 2 2; |rowz 1 2;");
        at(1, "house 2 2 2; |rowa 1 2;");
        at(1, "house 2 2 2; row|{1 2;");
        at(1, "house 2 2 2; row|`1 2;");
        at(1, "house 2 2 2; row |/ 2;");
        at(1, "house 2 2 2; row |: 2;");
        at(1, "house 2 2 2; |5;");
        at(1, "house\t 2 2 2;".replace("\t", "|\t"));
        at(1, "house|\r2 2 2;");
        at(1, "house|2 2 2;");
        at(1, "house|9 2 2;");
        at(1, "house 2 2 2; row|1 2;");
        at(1, "house 2 2 2; limit|5;");
        at(1, "house 2 2 2; limit 5|x;");
        at(1, "house 2 2 2; limit |-5;");
        at(1, "house |-2 2 2;");
        at(1, "house 2 2 2 |2;");
        at(1, "house 2 2 2, |".replace(", |", "|,"));
        good("house 2 2 2;row-1 2;row 1-2;limit 5;", 4);
        good("\n house\n2 2 2\n;\nrow - 1 - 2 ; ", 2);
    }

    private static void numbers() {
        at(2, "house |1 2 2;");
        at(2, "house |9 2 2;");
        at(2, "house |0 2 2;");
        at(2, "house 2 |0 2;");
        at(2, "house 2 |6 2;");
        at(2, "house 2 2 |0;");
        at(2, "house 2 2 |7");
        at(2, "house 2 2 2; row |100");
        at(2, "house 2 2 2; row |-100");
        at(2, "house 2 2 2; row 1 |- \n 9999;");
        at(2, "house 3 2 2; word |1 0;");
        at(2, "house 3 2 2; word 2 |4;");
        at(2, "house 3 2 2; word 2 |-3;");
        at(2, "house 2 2 2; word |0 0;");
        at(1, "house 0002 0002 0002; limit 0000|0;");
        at(1, "house 0000|2 2 2;");
        at(1, "house 2 2 2; limit 1234|5;");
        at(1, "house 2 2 2 |12345;");
        good("house 0002 5 6; row 99 -99 0 - 0 0099; limit 0000; limit 9999;", 4);
        good("house 3 2 2; word 2 -2; word 0 -0;", 3);
        good("house 8 1 1; word 7; word -7; word 1;", 4);
    }

    private static void tooMany() {
        at(4, "house 2 2 2; row 1 2;row 1 2;|row");
        at(1, "house 2 2 2; row 1 2;row 1 2;|rows");
        String text = "house 2 1 1;" + " word 1;".repeat(16);
        good(text, 17);
        at(4, text + "|word 7");
        text = "house 2 1 1;" + " worth 1 when all;".repeat(8);
        good(text, 9);
        at(4, text + " |worth");
        text = "house 2 1 1;" + "limit 1;".repeat(59);
        good(text, 60);
        good(text + " \n", 60);
        at(4, text + " |limit 5;");
        at(4, text + "|%");
        at(4, text + "|;");
        at(4, text + " |12345");
    }

    private static void rules() {
        rule(1, "|when all;");
        rule(1, "5 |all;");
        rule(1, "5|when all;");
        rule(1, "5 when|;");
        rule(1, "5 when 5|;");
        rule(1, "5 when 5 |all;");
        rule(1, "5 when all |all;");
        rule(1, "5 when all |< 5;");
        rule(1, "5 when 5 < 5 |< 5;");
        rule(1, "5 when 5 < |all;");
        rule(1, "5 when not|5 < 6;");
        rule(1, "5 when 5 < 6|and all;");
        rule(1, "5 when 5 < 6 and|;");
        rule(1, "5 when [ all |);");
        rule(1, "5 when [ 5 |] ;");
        rule(1, "5 when ( |all );");
        rule(1, "|-5 when all;");
        rule(1, "5 + |-5 when all;");
        rule(1, "5 |5 when all;");
        rule(1, "1234|5 when all;");
        rule(1, "(5 |when all;");
        rule(1, "min |5, 5) when all;");
        rule(1, "min (5 |) when all;");
        rule(1, "min (5, 5 |, 5) when all;");
        rule(1, "(5|, 5) when all;");
        rule(1, "5 |[ all ] when all;");
        rule(1, "|senders when all;");
        rule(1, "|peakk when all;");
        rule(1, "5 when sender |=> 5;".replace("|=>", "=|>"));
        good("house 3 2 2; worth min(1,max(2,3))*(sender+1)/square-peak when not[all or 1<2]and 3=3;", 2);
        good("house 3 2 2; worth 5 when all and all or all and not not all or [all];", 2);
    }

    private static void opened() {
        good("house 3 2 2; worth ((((((5)))))) when all;", 2);
        rule(3, "((((((|(5))))))) when all;");
        rule(3, "((((((|(");
        rule(3, "min(1,max(1,min(1,max(1,min(1,max(1,|(5))))))) when all;");
        rule(3, "min(1,max(1,min(1,max(1,min(1,max(1,min|(5");
        good("house 3 2 2; worth 1 when not not not not not not all and not not not not not not all;", 2);
        rule(3, "1 when not not not not not not |not all;");
        rule(3, "1 when not not not not not not |[all];");
        rule(3, "1 when not [not [not [ |(5) < 3 and (5)");
        good("house 3 2 2; worth 1 when not [not [ (5) < (3) and [(5) > 3 and not 1=1]]];", 2);
        rule(3, "1 when not [not [ (5) < (3) and [(5) > 3 and not |(1)=1]]];");
        rule(3, "1 when not [not [ (5) < (3) and [(5) > 3 and not |not 1=1]]];");
        // A not is open until its fact ends: behind it there is room again.
        good("house 3 2 2; worth 1 when [[[[[ not 1 < 2 and (3) < 4 ]]]]];", 2);
        rule(3, "1 when [[[[[ not |(1) < 2 and (3) < 4 ]]]]];");
    }

    public static void main(String[] args) {
        ends();
        words();
        numbers();
        tooMany();
        rules();
        opened();
        CHECK.end();
    }
}
