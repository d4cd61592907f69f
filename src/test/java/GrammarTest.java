import java.util.ArrayList;
import java.util.Arrays;
import java.util.LinkedHashSet;
import java.util.List;
import java.util.Random;
import java.util.Set;

/**
 * FAULT 1 by its own words, "the first byte with which no such text goes on": the document's rules are written out as a
 * grammar, of which another way of reading (all that may still be meant at once) knows with which signs a text goes on.
 */
public final class GrammarTest {
    private static final Check CHECK = new Check();
    private static final String HOUSE = "house 2 2 6;";
    private static final int DEEP = 8;
    private static final String[][] RULES = rules(
        "TEXT: STATEMENT ;", "TEXT: TEXT STATEMENT ;",
        "STATEMENT: row S S", "STATEMENT: word S S", "STATEMENT: worth SUM when TEST", "STATEMENT: limit 1",
        "S: 1", "S: - 1",
        "TEST: BOTH", "TEST: TEST or BOTH", "BOTH: FACT", "BOTH: BOTH and FACT",
        "FACT: not FACT", "FACT: [ TEST ]", "FACT: all", "FACT: SUM SIGN SUM", "SIGN: <", "SIGN: >", "SIGN: =",
        "SUM: PRODUCT", "SUM: SUM + PRODUCT", "SUM: SUM - PRODUCT",
        "PRODUCT: PART", "PRODUCT: PRODUCT * PART", "PRODUCT: PRODUCT / PART",
        "PART: 1", "PART: sender", "PART: square", "PART: peak", "PART: ( SUM )",
        "PART: min ( SUM , SUM )", "PART: max ( SUM , SUM )");
    private static final String[] SIGNS = ("house row word worth limit when or and not all sender square peak min max"
        + " x rows 1 ; - + * / < > = ( ) [ ] , ! A").split(" ");
    // What each kind of sign stands for, where only kinds are gone through.
    private static final String[] KINDS = "worth limit when or not all peak min 1 ; - * > ( ) [ ] ,".split(" ");

    /** What may be meant: a rule, how much of it has been read, and where it began. */
    private record Item(int rule, int dot, int from) {
        String next() {
            return dot + 1 < RULES[rule].length ? RULES[rule][dot + 1] : "";
        }

        Item on() {
            return new Item(rule, dot + 1, from);
        }
    }

    private static String[][] rules(String... texts) {
        return Arrays.stream(texts).map(t -> t.replace(": ", " ").split(" ")).toArray(String[][]::new);
    }

    // ---- all that may still be meant, sign by sign

    /** Fills a set: begins what comes next, and ends what has been read whole. */
    private static Set<Item> filled(Set<Item> start, List<Set<Item>> sets) {
        Set<Item> all = new LinkedHashSet<>(start);
        List<Item> todo = new ArrayList<>(start);
        int here = sets.size();
        for (int k = 0; k < todo.size(); k++) {
            Item one = todo.get(k);
            List<Item> more = new ArrayList<>();
            if (one.next().isEmpty()) {
                for (Item waiting : sets.get(one.from())) {
                    if (waiting.next().equals(RULES[one.rule()][0])) {
                        more.add(waiting.on());
                    }
                }
            } else {
                for (int r = 0; r < RULES.length; r++) {
                    if (RULES[r][0].equals(one.next())) {
                        more.add(new Item(r, 0, here));
                    }
                }
            }
            for (Item item : more) {
                if (all.add(item)) {
                    todo.add(item);
                }
            }
        }
        return all;
    }

    private static List<Set<Item>> start() {
        List<Set<Item>> sets = new ArrayList<>();
        sets.add(filled(Set.of(new Item(0, 0, 0), new Item(1, 0, 0)), sets));
        return sets;
    }

    /** Reads a sign: false, doing nothing, if no text goes on with it. */
    private static boolean goesOn(List<Set<Item>> sets, String sign) {
        Set<Item> moved = new LinkedHashSet<>();
        for (Item item : sets.get(sets.size() - 1)) {
            if (item.next().equals(sign)) {
                moved.add(item.on());
            }
        }
        if (moved.isEmpty()) {
            return false;
        }
        sets.add(filled(moved, sets));
        return true;
    }

    private static boolean isWhole(List<Set<Item>> sets) {
        Set<Item> last = sets.get(sets.size() - 1);
        return sets.size() == 1 || last.stream().anyMatch(i -> i.rule() < 2 && i.from() == 0 && i.next().isEmpty());
    }

    // ---- against the class

    private static void good(String text, int statements) {
        ManyOut x = new ManyOut();
        CHECK.due("house of " + text, Check.house(x, text), statements);
        CHECK.due("fault of " + text, x.fault(0), 0);
    }

    private static void fault(String text, int place) {
        ManyOut x = new ManyOut();
        CHECK.due("house of " + text, Check.house(x, text), ManyOut.NONE);
        CHECK.due("fault of " + text, x.fault(0), 1);
        CHECK.due("place of " + text, x.fault(1), place);
    }

    private static void asRead(String text, List<Set<Item>> sets) {
        if (isWhole(sets)) {
            good(text, (int) text.chars().filter(c -> c == ';').count());
        } else {
            fault(text, text.length());
        }
    }

    private static boolean opens(String sign) {
        return "([".contains(sign) || sign.equals("not");
    }

    /** Every text of so many signs that goes on, and each sign with which it does not; with 6 that open at most. */
    private static void all(String text, List<Set<Item>> sets, int deep, int open) {
        for (String sign : KINDS) {
            if (opens(sign) && open >= 6) {
                continue;
            }
            String more = text + " " + sign;
            if (!goesOn(sets, sign)) {
                fault(more, text.length() + 1);
                continue;
            }
            asRead(more, sets);
            if (deep > 1) {
                all(more, sets, deep - 1, opens(sign) ? open + 1 : open);
            }
            sets.remove(sets.size() - 1);
        }
    }

    private static boolean isSmallOrDigit(char one) {
        return one >= 'a' && one <= 'z' || one >= '0' && one <= '9';
    }

    private static String blanks(Random random, String text, String sign) {
        boolean needed = isSmallOrDigit(text.charAt(text.length() - 1)) && isSmallOrDigit(sign.charAt(0));
        String any = random.nextInt(3) == 0 ? "" : random.nextInt(4) == 0 ? " \n " : random.nextInt(2) == 0 ? "\n" : " ";
        return needed && any.isEmpty() ? " " : any;
    }

    /** A long text by chance; nothing comes so often that it were another fault. */
    private static void longText(Random random) {
        List<Set<Item>> sets = start();
        String text = HOUSE;
        int open = 0;
        int statements = 0;
        for (int n = 0; n < 300 && statements < 6; n++) {
            String sign = SIGNS[random.nextInt(SIGNS.length)];
            if (opens(sign) && open >= 6) {
                continue;
            }
            String more = text + blanks(random, text, sign);
            if (!goesOn(sets, sign)) {
                fault(more + sign + " worth ; 1", more.length());
                continue;
            }
            open = sign.equals(";") ? 0 : opens(sign) ? open + 1 : open;
            statements += sign.equals(";") ? 1 : 0;
            text = more + sign;
            asRead(text, sets);
        }
    }

    public static void main(String[] args) {
        all(HOUSE, start(), DEEP, 0);
        for (int seed = 0; seed < 300; seed++) {
            longText(new Random(seed));
        }
        CHECK.end();
    }
}
