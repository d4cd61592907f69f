import java.util.ArrayList;
import java.util.Arrays;
import java.util.Comparator;
import java.util.List;
import java.util.function.IntBinaryOperator;
import java.util.function.IntUnaryOperator;

/** A second way to ManyOut's answers: slow, with the Java library, as near to the document's words as can be. */
final class Plain {
    static final int NONE = -1;
    static final int NOTHING = -1000000000;

    private byte[] tape = new byte[0];
    private int letters = 0;
    private int senders = 0;
    private int receivers = 0;
    private int limit = 9999;
    private int statements = 0;
    private List<int[]> rows = new ArrayList<>();
    private List<int[]> words = new ArrayList<>();
    private List<IntUnaryOperator> sums = new ArrayList<>();
    private List<IntUnaryOperator> tests = new ArrayList<>();
    private int fault = 0;
    private int place = NONE;
    private int[] heard = new int[0];
    /** All steps from the beginning, as they were made; those from `done` on were undone. */
    private List<int[]> steps = new ArrayList<>();
    private int done = 0;
    private int undoable = 0;
    private int[] put = null;
    private byte[] image = new byte[0];

    // ---- the tape and the house

    int feed(int... five) {
        if (tape.length + 20 > 1600) {
            return NONE;
        }
        int old = tape.length;
        tape = Arrays.copyOf(tape, old + 20);
        for (int k = 0; k < 20; k++) {
            tape[old + k] = (byte) (five[k / 4] >>> 24 - 8 * (k % 4));
        }
        return tape.length;
    }

    boolean end(int n) {
        if (n < 0 || n > tape.length) {
            return false;
        }
        tape = Arrays.copyOf(tape, n);
        return true;
    }

    private byte[] takeTape() {
        byte[] all = tape;
        tape = new byte[0];
        return all;
    }

    int house() {
        Text text = new Text(takeTape());
        try {
            text.read();
        } catch (Fault f) {
            fault = f.what;
            place = f.where;
            return NONE;
        }
        fault = 0;
        place = NONE;
        letters = text.letters;
        senders = text.senders;
        receivers = text.receivers;
        limit = text.limit;
        statements = text.statements;
        rows = text.rows;
        words = text.words;
        sums = text.sums;
        tests = text.tests;
        heard = new int[receivers];
        steps = new ArrayList<>();
        done = 0;
        undoable = 0;
        put = null;
        return statements;
    }

    int fault(int what) {
        return what == 0 ? fault : what == 1 ? place : NONE;
    }

    int has(int what) {
        int[] all = {letters, senders, receivers, rows.size(), words.size(), tests.size(), limit, done, undoable,
            steps.size() - done};
        return what < 0 || what > 9 ? NONE : all[what];
    }

    private int number(int r, int s) {
        return r < rows.size() ? rows.get(r)[s] : 0;
    }

    /** The led table, and below it the leader, made from the beginning by so many of the steps. */
    private long[][] ledBy(int n) {
        long[][] t = new long[receivers + senders][senders];
        for (int s = 0; s < senders; s++) {
            for (int r = 0; r < receivers; r++) {
                t[r][s] = number(r, s);
            }
            t[receivers + s][s] = 1;
        }
        for (int[] step : steps.subList(0, n)) {
            for (long[] row : t) {
                row[step[0]] -= step[2] * row[step[1]];
            }
        }
        return t;
    }

    private long[][] tableBy(boolean led) {
        return Arrays.copyOf(ledBy(led ? done : 0), receivers);
    }

    int table(int receiver, int sender, boolean led) {
        return isReceiver(receiver) && isSender(sender) ? (int) tableBy(led)[receiver][sender] : NOTHING;
    }

    int product(int first, int second, boolean led) {
        return isSender(first) && isSender(second) ? (int) product(tableBy(led), first, second) : NOTHING;
    }

    private static long product(long[][] t, int i, int j) {
        long sum = 0;
        for (long[] row : t) {
            sum += row[i] * row[j];
        }
        return sum;
    }

    private boolean isSender(int s) {
        return s >= 0 && s < senders;
    }

    private boolean isReceiver(int r) {
        return r >= 0 && r < receivers;
    }

    private boolean isLetter(int v) {
        return Arrays.stream(alphabet()).anyMatch(a -> a == v);
    }

    private int[] alphabet() {
        int[] all = new int[letters];
        for (int k = 0; k < letters; k++) {
            all[k] = -(letters - 1) + 2 * k;
        }
        return all;
    }

    // ---- what is heard

    boolean hear() {
        byte[] b = takeTape();
        if (b.length != 2 * receivers) {
            return false;
        }
        heard = shorts(b);
        return true;
    }

    private int[] shorts(byte[] b) {
        int[] all = new int[receivers];
        for (int r = 0; r < receivers; r++) {
            all[r] = b[2 * r] * 256 + (b[2 * r + 1] & 255);
        }
        return all;
    }

    int heard(int receiver) {
        return isReceiver(receiver) ? heard[receiver] : NOTHING;
    }

    private int[] takeRow() {
        byte[] b = takeTape();
        if (b.length != senders || senders == 0) {
            return null;
        }
        int[] row = new int[senders];
        for (int s = 0; s < senders; s++) {
            row[s] = b[s];
            if (!isLetter(row[s])) {
                return null;
            }
        }
        return row;
    }

    private int[] sent(int[] row) {
        int[] all = new int[receivers];
        for (int r = 0; r < receivers; r++) {
            for (int s = 0; s < senders; s++) {
                all[r] += number(r, s) * row[s];
            }
        }
        return all;
    }

    private static long squares(int[] numbers) {
        return Arrays.stream(numbers).mapToLong(n -> (long) n * n).sum();
    }

    private long distance(int[] row) {
        int[] miss = sent(row);
        for (int r = 0; r < receivers; r++) {
            miss[r] = heard[r] - miss[r];
        }
        return squares(miss);
    }

    boolean send() {
        int[] row = takeRow();
        if (row == null) {
            return false;
        }
        heard = sent(row);
        return true;
    }

    long distance() {
        int[] row = takeRow();
        return row == null ? -1 : distance(row);
    }

    int slips(int most, int seed) {
        if (most < 0 || most > 9999 || receivers == 0) {
            return NONE;
        }
        java.math.BigInteger x = java.math.BigInteger.valueOf(seed);
        for (int r = 0; r < receivers; r++) {
            x = x.multiply(java.math.BigInteger.valueOf(1103515245)).add(java.math.BigInteger.valueOf(12345))
                .mod(java.math.BigInteger.ONE.shiftLeft(31));
            int draw = (int) (x.longValue() / 64 % (2 * most + 1));
            heard[r] = Math.max(-32768, Math.min(32767, heard[r] + draw - most));
        }
        return receivers;
    }

    // ---- told back

    /** All rows of numbers of each sender, in their order. */
    private static List<int[]> all(int[][] numbers) {
        List<int[]> found = new ArrayList<>();
        found.add(new int[0]);
        for (int[] choice : numbers) {
            List<int[]> longer = new ArrayList<>();
            for (int[] head : found) {
                for (int v : choice) {
                    int[] row = Arrays.copyOf(head, head.length + 1);
                    row[head.length] = v;
                    longer.add(row);
                }
            }
            found = longer;
        }
        return found;
    }

    private List<int[]> allRows() {
        if (senders == 0) {
            return new ArrayList<>();
        }
        int[][] numbers = new int[senders][];
        Arrays.fill(numbers, alphabet());
        return all(numbers);
    }

    private List<int[]> nearestRows() {
        List<int[]> all = allRows();
        all.sort(Comparator.comparingLong(this::distance));
        return all;
    }

    int nearest(int k, int sender) {
        List<int[]> all = nearestRows();
        return k >= 0 && k <= 9 && k < all.size() && isSender(sender) ? all.get(k)[sender] : NOTHING;
    }

    long near(int k) {
        List<int[]> all = nearestRows();
        return k >= 0 && k <= 9 && k < all.size() ? distance(all.get(k)) : -1;
    }

    int within(long bound) {
        return bound < 0 ? NONE : (int) allRows().stream().filter(row -> distance(row) <= bound).count();
    }

    private Integer[] turns() {
        long[][] t = tableBy(false);
        Integer[] turns = new Integer[senders];
        Arrays.setAll(turns, s -> s);
        Arrays.sort(turns, Comparator.comparingLong(s -> -product(t, s, s)));
        return turns;
    }

    private int[] cancelled() {
        int[] row = new int[senders];
        int[] left = heard.clone();
        for (int s : turns()) {
            long best = Long.MAX_VALUE;
            for (int a : alphabet()) {
                int[] miss = left.clone();
                for (int r = 0; r < receivers; r++) {
                    miss[r] -= number(r, s) * a;
                }
                if (squares(miss) < best) {
                    best = squares(miss);
                    row[s] = a;
                }
            }
            for (int r = 0; r < receivers; r++) {
                left[r] -= number(r, s) * row[s];
            }
        }
        return row;
    }

    int cancel(int sender) {
        return isSender(sender) ? cancelled()[sender] : NOTHING;
    }

    int order(int k) {
        return isSender(k) ? turns()[k] : NONE;
    }

    long left() {
        return senders == 0 ? -1 : distance(cancelled());
    }

    long least(int sender, int letter) {
        return !isSender(sender) ? -1
            : allRows().stream().filter(row -> row[sender] == letter).mapToLong(this::distance).min().orElse(-1);
    }

    private long weigh(int[] row) {
        return 1000000000L / (1 + distance(row));
    }

    int share(int sender, int letter) {
        if (!isSender(sender) || !isLetter(letter)) {
            return NONE;
        }
        long all = allRows().stream().mapToLong(this::weigh).sum();
        long with = allRows().stream().filter(row -> row[sender] == letter).mapToLong(this::weigh).sum();
        return all == 0 ? 0 : (int) (1000 * with / all);
    }

    long sure(int sender) {
        if (!isSender(sender)) {
            return -1;
        }
        List<int[]> all = nearestRows();
        int[] best = all.get(0);
        for (int[] row : all) {
            if (row[sender] != best[sender]) {
                return distance(row) - distance(best);
            }
        }
        return -1;
    }

    // ---- led

    /** The next step, or null when it rests. */
    private static int[] nextStep(long[][] t, int senders, int done) {
        for (int i = 0; i < senders && done < 200; i++) {
            for (int j = 0; j < senders; j++) {
                long squares = product(t, j, j);
                if (i == j || squares == 0) {
                    continue;
                }
                long product = product(t, i, j);
                long best = 0;
                // By looking at all that can be: the one nearest to the quotient, of like ones nearer to 0.
                for (long q = 0; q <= Math.abs(product) / squares + 1; q++) {
                    if (Math.abs(Math.abs(product) - q * squares) < Math.abs(Math.abs(product) - best * squares)) {
                        best = q;
                    }
                }
                if (best != 0) {
                    return new int[] {i, j, (int) (product < 0 ? -best : best)};
                }
            }
        }
        return null;
    }

    int lead(int n) {
        if (n < 1 || n > 100) {
            return NONE;
        }
        int made = 0;
        while (made < n) {
            int[] step = nextStep(tableBy(true), senders, done);
            if (step == null) {
                break;
            }
            steps = new ArrayList<>(steps.subList(0, done));
            steps.add(step);
            done++;
            undoable = Math.min(40, undoable + 1);
            made++;
        }
        return made;
    }

    boolean undo() {
        if (undoable == 0) {
            return false;
        }
        undoable--;
        done--;
        return true;
    }

    boolean redo() {
        if (done == steps.size()) {
            return false;
        }
        undoable++;
        done++;
        return true;
    }

    long leader(int row, int column) {
        return isSender(row) && isSender(column) ? ledBy(done)[receivers + row][column] : NOTHING;
    }

    int step(int k, int what) {
        return k >= 0 && k < undoable && what >= 0 && what <= 2 ? steps.get(done - undoable + k)[what] : NOTHING;
    }

    int clash(int first, int second, boolean led) {
        if (!isSender(first) || !isSender(second) || first == second) {
            return NONE;
        }
        long[][] t = tableBy(led);
        long both = product(t, first, first) * product(t, second, second);
        long product = product(t, first, second);
        return both == 0 ? 0 : (int) (1000 * product * product / both);
    }

    int worst(boolean led) {
        int best = NONE;
        int most = -1;
        for (int i = 0; i < senders; i++) {
            for (int j = i + 1; j < senders; j++) {
                if (clash(i, j, led) > most) {
                    most = clash(i, j, led);
                    best = 100 * i + j;
                }
            }
        }
        return best;
    }

    long squares(boolean led) {
        return Arrays.stream(tableBy(led)).flatMapToLong(Arrays::stream).map(n -> n * n).sum();
    }

    // ---- sums, codes, what is put ahead

    private static int[] range(int least, int most, int gap) {
        int[] all = new int[(most - least) / gap + 1];
        Arrays.setAll(all, k -> least + gap * k);
        return all;
    }

    /** The first row with the least squares sent, of numbers of some senders that are not all 0. */
    private int[] shortest(int bits, int[] numbers) {
        int[][] choice = new int[senders][];
        for (int s = 0; s < senders; s++) {
            choice[s] = (bits >> s & 1) == 1 ? numbers : new int[1];
        }
        int[] best = null;
        for (int[] row : all(choice)) {
            boolean some = Arrays.stream(row).anyMatch(v -> v != 0);
            if (some && (best == null || squares(sent(row)) < squares(sent(best)))) {
                best = row;
            }
        }
        return best;
    }

    long sums(int bits, int m, int k) {
        if (bits <= 0 || bits >= 1 << senders || m < 1 || m > 2 || k < -1 || k >= senders) {
            return NOTHING;
        }
        int[] best = shortest(bits, range(-m, m, 1));
        return k == NONE ? squares(sent(best)) : best[k];
    }

    long apart(int bits) {
        if (bits <= 0 || bits >= 1 << senders) {
            return -1;
        }
        return squares(sent(shortest(bits, range(-2 * (letters - 1), 2 * (letters - 1), 2))));
    }

    int word(int word, int sender) {
        return isWord(word) && isSender(sender) ? words.get(word)[sender] : NOTHING;
    }

    private boolean isWord(int word) {
        return word >= 0 && word < words.size();
    }

    private long pairWorth(int[] a, int[] b) {
        int[] difference = new int[senders];
        Arrays.setAll(difference, s -> a[s] - b[s]);
        return squares(sent(difference));
    }

    private static long leastOf(List<Long> worths) {
        return worths.stream().mapToLong(w -> w).min().getAsLong();
    }

    private List<Long> worths(int without) {
        List<Long> all = new ArrayList<>();
        for (int i = 0; i < words.size(); i++) {
            for (int j = i + 1; j < words.size(); j++) {
                if (i != without && j != without) {
                    all.add(pairWorth(words.get(i), words.get(j)));
                }
            }
        }
        return all;
    }

    long code(int what) {
        if (what == 3) {
            return words.stream().mapToLong(Plain::squares).max().orElse(-1);
        }
        if (words.size() < 2 || what < 0 || what > 3) {
            return -1;
        }
        List<Long> all = worths(NONE);
        long least = leastOf(all);
        if (what == 0) {
            return least;
        }
        if (what == 1) {
            return all.stream().filter(w -> w == least).count();
        }
        int place = all.indexOf(least);
        for (int i = 0; i < words.size(); i++) {
            int pairs = words.size() - 1 - i;
            if (place < pairs) {
                return 100 * i + i + 1 + place;
            }
            place -= pairs;
        }
        return -1;
    }

    int decode() {
        int best = NONE;
        for (int w = 0; w < words.size(); w++) {
            if (best == NONE || distance(words.get(w)) < distance(words.get(best))) {
                best = w;
            }
        }
        return best;
    }

    long leave(int what) {
        if (words.size() < 3 || what < 0 || what > 1) {
            return -1;
        }
        int best = 0;
        for (int w = 1; w < words.size(); w++) {
            if (leastOf(worths(w)) > leastOf(worths(best))) {
                best = w;
            }
        }
        return what == 0 ? best : leastOf(worths(best));
    }

    int behind(int word) {
        if (!isWord(word)) {
            return NONE;
        }
        List<int[]> all = nearestRows();
        for (int k = 0; k < all.size(); k++) {
            if (Arrays.equals(all.get(k), words.get(word))) {
                return k;
            }
        }
        return NONE;
    }

    int unlike(int first, int second) {
        if (!isWord(first) || !isWord(second)) {
            return NONE;
        }
        int count = 0;
        for (int s = 0; s < senders; s++) {
            count += words.get(first)[s] == words.get(second)[s] ? 0 : 1;
        }
        return count;
    }

    private int[] sentAhead(int[] row, int[] shifts) {
        int[] moved = new int[senders];
        Arrays.setAll(moved, s -> row[s] + 2 * letters * shifts[s]);
        return sent(moved);
    }

    private int[] shiftsFor(int[] row) {
        int[][] choice = new int[senders][];
        Arrays.fill(choice, new int[] {-1, 0, 1});
        int[] best = null;
        for (int[] shifts : all(choice)) {
            if (best == null || squares(sentAhead(row, shifts)) < squares(sentAhead(row, best))) {
                best = shifts;
            }
        }
        return best;
    }

    private long aheadOf(int[] row) {
        return squares(sentAhead(row, shiftsFor(row)));
    }

    long span(boolean most) {
        return most ? allRows().stream().mapToLong(this::aheadOf).max().orElse(-1)
            : allRows().stream().mapToLong(this::aheadOf).min().orElse(-1);
    }

    long ahead() {
        int[] row = takeRow();
        put = null;
        if (row == null || aheadOf(row) > 1000L * limit) {
            return -1;
        }
        put = shiftsFor(row);
        return aheadOf(row);
    }

    int put(int sender) {
        return isSender(sender) && put != null ? put[sender] : NOTHING;
    }

    // ---- senders

    int worth(int sender) {
        if (!isSender(sender)) {
            return NOTHING;
        }
        for (int k = 0; k < tests.size(); k++) {
            if (tests.get(k).applyAsInt(sender) == 1) {
                return sums.get(k).applyAsInt(sender);
            }
        }
        return 0;
    }

    int chosen(int n, long bound) {
        if (n < 1 || n > 5 || bound < 0) {
            return NONE;
        }
        int best = NONE;
        int most = 0;
        for (int bits = 1; bits < 1 << senders; bits++) {
            if (Integer.bitCount(bits) == n && apart(bits) >= bound) {
                int sum = 0;
                for (int s = 0; s < senders; s++) {
                    sum += (bits >> s & 1) * worth(s);
                }
                if (best == NONE || sum > most) {
                    best = bits;
                    most = sum;
                }
            }
        }
        return best;
    }

    // ---- images

    private static int check(byte[] b, int length) {
        int c = 51;
        for (int k = 0; k < length; k++) {
            c = (7 * c + (b[k] & 255)) % 253;
        }
        return c;
    }

    int image() {
        image = new byte[2 * receivers + 2];
        for (int r = 0; r < receivers; r++) {
            image[2 * r] = (byte) (heard[r] >> 8);
            image[2 * r + 1] = (byte) heard[r];
        }
        image[2 * receivers] = (byte) done;
        image[2 * receivers + 1] = (byte) check(image, 2 * receivers + 1);
        return image.length;
    }

    int octet(int k) {
        return k >= 0 && k < image.length ? image[k] & 255 : NONE;
    }

    boolean on() {
        byte[] b = takeTape();
        int last = 2 * receivers + 1;
        if (b.length != last + 1 || (b[last] & 255) != check(b, last)) {
            return false;
        }
        int n = b[last - 1] & 255;
        Plain other = new Plain();
        other.senders = senders;
        other.receivers = receivers;
        other.rows = rows;
        for (int k = 0; k < n; k++) {
            if (other.lead(1) != 1) {
                return false;
            }
        }
        heard = shorts(b);
        steps = other.steps;
        done = n;
        undoable = Math.min(40, n);
        return true;
    }

    // ---- the text

    private static final class Fault extends RuntimeException {
        private static final long serialVersionUID = 1L;
        final int what;
        final int where;

        Fault(int what, int where) {
            this.what = what;
            this.where = where;
        }
    }

    /** A text is cut into pieces first: words, numbers, single signs; then these are read. */
    private final class Text {
        private final String text;
        private final List<String> pieces = new ArrayList<>();
        private final List<Integer> places = new ArrayList<>();
        private int next = 0;
        private int open = 0;
        private int letters = 0;
        private int senders = 0;
        private int receivers = 0;
        private int limit = 9999;
        private int statements = 0;
        private final List<int[]> rows = new ArrayList<>();
        private final List<int[]> words = new ArrayList<>();
        private final List<IntUnaryOperator> sums = new ArrayList<>();
        private final List<IntUnaryOperator> tests = new ArrayList<>();

        Text(byte[] bytes) {
            text = new String(bytes, java.nio.charset.StandardCharsets.ISO_8859_1);
            java.util.regex.Matcher m = java.util.regex.Pattern.compile("[a-z]+|[0-9]+|[^ \n]").matcher(text);
            while (m.find()) {
                pieces.add(m.group());
                places.add(m.start());
            }
        }

        private int place() {
            return next < places.size() ? places.get(next) : text.length();
        }

        private String piece() {
            if (next >= pieces.size()) {
                return "";
            }
            String now = pieces.get(next);
            if (next > 0 && now.matches("[a-z0-9]+") && pieces.get(next - 1).matches("[a-z0-9]+")
                && places.get(next - 1) + pieces.get(next - 1).length() == place()) {
                return "a blank is missing";
            }
            return now;
        }

        private void want(String piece) {
            if (!piece().equals(piece)) {
                throw new Fault(1, place());
            }
            next++;
        }

        private boolean took(String piece) {
            boolean there = piece().equals(piece);
            next += there ? 1 : 0;
            return there;
        }

        private int number() {
            if (!piece().matches("[0-9]+")) {
                throw new Fault(1, place());
            }
            if (piece().length() > 4) {
                throw new Fault(1, place() + 4);
            }
            int value = Integer.parseInt(piece());
            next++;
            return value;
        }

        private int within(int least, int most) {
            int start = place();
            int value = number();
            if (value < least || value > most) {
                throw new Fault(2, start);
            }
            return value;
        }

        private int[] signed(java.util.function.IntPredicate can) {
            int[] all = new int[senders];
            for (int s = 0; s < senders; s++) {
                int start = place();
                all[s] = took("-") ? -number() : number();
                if (!can.test(all[s])) {
                    throw new Fault(2, start);
                }
            }
            return all;
        }

        void read() {
            if (pieces.isEmpty()) {
                throw new Fault(1, text.length());
            }
            want("house");
            letters = within(2, 8);
            senders = within(1, 5);
            receivers = within(1, 6);
            want(";");
            statements = 1;
            while (next < pieces.size()) {
                if (statements == 60) {
                    throw new Fault(4, place());
                }
                statement();
                want(";");
                statements++;
            }
        }

        private void kind(int count, int most) {
            if (count == most) {
                throw new Fault(4, place());
            }
            next++;
        }

        private void statement() {
            switch (piece()) {
                case "row":
                    kind(rows.size(), receivers);
                    rows.add(signed(v -> Math.abs(v) <= 99));
                    break;
                case "word":
                    kind(words.size(), 16);
                    words.add(signed(v -> Math.abs(v) < letters && Math.abs(v) % 2 != letters % 2));
                    break;
                case "worth":
                    kind(tests.size(), 8);
                    sums.add(sum());
                    want("when");
                    tests.add(test());
                    break;
                default:
                    want("limit");
                    limit = within(0, 9999);
            }
        }

        private void open() {
            open++;
            if (open == 7) {
                throw new Fault(3, place());
            }
            next++;
        }

        private IntUnaryOperator test() {
            IntUnaryOperator a = both();
            while (took("or")) {
                a = joined(a, both(), (x, y) -> Math.max(x, y));
            }
            return a;
        }

        private IntUnaryOperator both() {
            IntUnaryOperator a = fact();
            while (took("and")) {
                a = joined(a, fact(), (x, y) -> Math.min(x, y));
            }
            return a;
        }

        private IntUnaryOperator fact() {
            if (piece().equals("not")) {
                open();
                IntUnaryOperator a = fact();
                open--;
                return s -> 1 - a.applyAsInt(s);
            }
            if (piece().equals("[")) {
                open();
                IntUnaryOperator a = test();
                want("]");
                open--;
                return a;
            }
            if (took("all")) {
                return s -> 1;
            }
            IntUnaryOperator a = sum();
            if (took("<")) {
                return joined(a, sum(), (x, y) -> x < y ? 1 : 0);
            }
            if (took(">")) {
                return joined(a, sum(), (x, y) -> x > y ? 1 : 0);
            }
            want("=");
            return joined(a, sum(), (x, y) -> x == y ? 1 : 0);
        }

        private IntUnaryOperator joined(IntUnaryOperator a, IntUnaryOperator b, IntBinaryOperator how) {
            return s -> how.applyAsInt(a.applyAsInt(s), b.applyAsInt(s));
        }

        private int cut(long v) {
            return v > 1000000 ? 1000000 : v < -1000000 ? -1000000 : (int) v;
        }

        private IntUnaryOperator sum() {
            IntUnaryOperator a = product();
            while (piece().equals("+") || piece().equals("-")) {
                a = took("+") ? joined(a, product(), (x, y) -> cut((long) x + y))
                    : less(a);
            }
            return a;
        }

        private IntUnaryOperator less(IntUnaryOperator a) {
            want("-");
            return joined(a, product(), (x, y) -> cut((long) x - y));
        }

        private IntUnaryOperator product() {
            IntUnaryOperator a = part();
            while (piece().equals("*") || piece().equals("/")) {
                a = took("*") ? joined(a, part(), (x, y) -> cut((long) x * y)) : by(a);
            }
            return a;
        }

        private IntUnaryOperator by(IntUnaryOperator a) {
            want("/");
            return joined(a, part(), (x, y) -> y == 0 ? 0 : (int) Math.floor((double) x / y));
        }

        private IntUnaryOperator part() {
            switch (piece()) {
                case "sender":
                    next++;
                    return s -> s;
                case "square":
                    next++;
                    return s -> (int) rows.stream().mapToLong(row -> row[s] * row[s]).sum();
                case "peak":
                    next++;
                    return s -> rows.stream().mapToInt(row -> Math.abs(row[s])).max().orElse(0);
                case "(": {
                    open();
                    IntUnaryOperator a = sum();
                    want(")");
                    open--;
                    return a;
                }
                case "min":
                    next++;
                    return pair(Math::min);
                case "max":
                    next++;
                    return pair(Math::max);
                default: {
                    int n = number();
                    return s -> n;
                }
            }
        }

        private IntUnaryOperator pair(IntBinaryOperator how) {
            if (!piece().equals("(")) {
                throw new Fault(1, place());
            }
            open();
            IntUnaryOperator a = sum();
            want(",");
            IntUnaryOperator b = sum();
            want(")");
            open--;
            return joined(a, b, how);
        }
    }
}
