import java.util.Random;

/** What is put ahead, over all rows of many small houses, house after house in one object, against plain loops. */
public final class SpanTest {
    private static final Check CHECK = new Check();
    private static final int OBJECTS = 60;
    private static final int HOUSES = 12;

    private final Random random;
    private int letters;
    private int senders;
    private int[][] table;

    private SpanTest(Random random) {
        this.random = random;
    }

    private String newHouse() {
        letters = 2 + random.nextInt(4);
        senders = 1 + random.nextInt(4);
        if (random.nextInt(8) == 0) {
            letters = 2;
            senders = 5;
        }
        int size = new int[] {1, 3, 10, 99}[random.nextInt(4)];
        table = new int[1 + random.nextInt(6)][senders];
        StringBuilder text = new StringBuilder("house " + letters + " " + senders + " " + table.length + ";");
        for (int[] row : table) {
            text.append("row");
            for (int s = 0; s < senders; s++) {
                row[s] = random.nextInt(2 * size + 1) - size;
                text.append(' ').append(row[s]);
            }
            text.append(';');
        }
        return text.toString();
    }

    private int power(int base) {
        int all = 1;
        for (int s = 0; s < senders; s++) {
            all *= base;
        }
        return all;
    }

    /** The squares of what the k-th row sends with the z-th row of numbers put ahead. */
    private long squares(int k, int z) {
        long sum = 0;
        for (int[] numbers : table) {
            long sent = 0;
            int letter = k;
            int put = z;
            for (int s = 0; s < senders; s++) {
                sent += (long) numbers[s] * (letter % letters * 2 - letters + 1 + 2 * letters * (put % 3 - 1));
                letter /= letters;
                put /= 3;
            }
            sum += sent * sent;
        }
        return sum;
    }

    private void compare(ManyOut x, String house) {
        Check.house(x, house);
        long least = Long.MAX_VALUE;
        long most = -1;
        for (int k = 0; k < power(letters); k++) {
            long best = Long.MAX_VALUE;
            for (int z = 0; z < power(3); z++) {
                best = Math.min(best, squares(k, z));
            }
            least = Math.min(least, best);
            most = Math.max(most, best);
        }
        CHECK.due("span(true) of " + house, x.span(true), most);
        CHECK.due("span(false) of " + house, x.span(false), least);
    }

    public static void main(String[] args) {
        SpanTest test = new SpanTest(new Random(5));
        for (int n = 0; n < OBJECTS; n++) {
            ManyOut x = new ManyOut();
            for (int h = 0; h < HOUSES; h++) {
                test.compare(x, test.newHouse());
            }
        }
        CHECK.end();
    }
}
