import java.util.Random;

/** The largest houses: what is looked for among millions of rows, against plain loops over all of them. */
public final class BigTest {
    private static final Check CHECK = new Check();

    private final int letters;
    private final int senders = 5;
    private final int receivers;
    private final int[][] table;
    private final ManyOut x;
    private final String text;

    private BigTest(int letters, int receivers, int size, Random random) {
        this.letters = letters;
        this.receivers = receivers;
        table = new int[receivers][senders];
        StringBuilder b = new StringBuilder("house " + letters + " " + senders + " " + receivers + ";");
        for (int[] row : table) {
            b.append("row");
            for (int s = 0; s < senders; s++) {
                row[s] = random.nextInt(2 * size + 1) - size;
                b.append(' ').append(row[s]);
            }
            b.append(';');
        }
        text = b.toString();
        x = Check.with(text);
    }

    private long squares(int[] row) {
        long sum = 0;
        for (int[] numbers : table) {
            int sent = 0;
            for (int s = 0; s < senders; s++) {
                sent += numbers[s] * row[s];
            }
            sum += (long) sent * sent;
        }
        return sum;
    }

    /** The k-th row of numbers, each one of so many from the least on. */
    private int[] row(int k, int many, int least, int gap) {
        int[] row = new int[senders];
        for (int s = senders - 1; s >= 0; s--) {
            row[s] = least + gap * (k % many);
            k /= many;
        }
        return row;
    }

    private int power(int base) {
        return (int) Math.round(Math.pow(base, senders));
    }

    private void span() {
        long least = Long.MAX_VALUE;
        long most = 0;
        for (int k = 0; k < power(letters); k++) {
            int[] row = row(k, letters, 1 - letters, 2);
            long best = Long.MAX_VALUE;
            for (int z = 0; z < power(3); z++) {
                int[] moved = row(z, 3, -2 * letters, 2 * letters);
                for (int s = 0; s < senders; s++) {
                    moved[s] += row[s];
                }
                best = Math.min(best, squares(moved));
            }
            least = Math.min(least, best);
            most = Math.max(most, best);
        }
        CHECK.due("span(true) of " + text, x.span(true), most);
        CHECK.due("span(false) of " + text, x.span(false), least);
        CHECK.due("span(true) once more of " + text, x.span(true), most);
    }

    private void apart() {
        int many = 2 * letters - 1;
        long least = Long.MAX_VALUE;
        for (int k = 0; k < power(many); k++) {
            if (k != power(many) / 2) {
                least = Math.min(least, squares(row(k, many, -2 * (letters - 1), 2)));
            }
        }
        CHECK.due("apart(31) of " + text, x.apart(31), least);
        CHECK.due("chosen(5, that)", x.chosen(5, least), 31);
        CHECK.due("chosen(5, above that)", x.chosen(5, least + 1), ManyOut.NONE);
    }

    private void within(Random random) {
        int[] heard = new int[receivers];
        for (int r = 0; r < receivers; r++) {
            heard[r] = random.nextInt(2001) - 1000;
        }
        Check.hear(x, heard);
        long bound = 400000L * receivers;
        int count = 0;
        long nearest = Long.MAX_VALUE;
        long all = 0;
        long with = 0;
        for (int k = 0; k < power(letters); k++) {
            int[] row = row(k, letters, 1 - letters, 2);
            long distance = 0;
            for (int r = 0; r < receivers; r++) {
                long miss = heard[r];
                for (int s = 0; s < senders; s++) {
                    miss -= table[r][s] * row[s];
                }
                distance += miss * miss;
            }
            count += distance <= bound ? 1 : 0;
            nearest = Math.min(nearest, distance);
            all += 1000000000L / (1 + distance);
            with += row[2] == letters - 1 ? 1000000000L / (1 + distance) : 0;
        }
        CHECK.due("within of " + text, x.within(bound), count);
        CHECK.due("near(0) of " + text, x.near(0), nearest);
        CHECK.due("share of " + text, x.share(2, letters - 1), 1000 * with / all);
        CHECK.due("within all of " + text, x.within(Long.MAX_VALUE), power(letters));
    }

    public static void main(String[] args) {
        Random random = new Random(11);
        for (int receivers = 1; receivers <= 6; receivers++) {
            for (int letters = 7; letters <= 8; letters++) {
                BigTest test = new BigTest(letters, receivers, receivers % 2 == 0 ? 99 : 12, random);
                test.span();
                test.apart();
                test.within(random);
            }
        }
        CHECK.end();
    }
}
