import java.util.Arrays;

/**
 * Many in, many out: words sent from several senders at once, mixed by a table of whole numbers
 * and heard by several receivers. README.md says how it is used.
 */
public final class ManyOut {
    public static final int NONE = -1;
    public static final int NOTHING = -1000000000;

    private static final int MOST_LETTERS = 8;
    private static final int MOST_SENDERS = 5;
    private static final int MOST_RECEIVERS = 6;
    private static final int MOST_WORDS = 16;
    private static final int MOST_RULES = 8;
    private static final int MOST_STATEMENTS = 60;
    private static final int MOST_BYTES = 1600;
    private static final int MOST_NUMBER = 99;
    private static final int MOST_LIMIT = 9999;
    private static final int MOST_DIGITS = 4;
    private static final int MOST_OPEN = 6;
    private static final int MOST_STEPS = 200;
    private static final int MOST_UNDONE = 40;
    private static final int MOST_NEAR = 10;
    private static final int MOST_SLIP = 9999;
    private static final int LEAST_HEARD = -32768;
    private static final int MOST_HEARD = 32767;
    private static final int CHECK_START = 51;
    private static final int BOUND = 1000000;
    private static final long WEIGHT = 1000000000L;
    // Above all squares that there are.
    private static final long FAR = 1000000000000000L;

    private static final int SYNTAX_FAULT = 1;
    private static final int NUMBER_FAULT = 2;
    private static final int OPEN_FAULT = 3;
    private static final int COUNT_FAULT = 4;

    // What a rule's code does: 0 and above is a number, these are the rest.
    private static final int OP_SENDER = -1;
    private static final int OP_SQUARE = -2;
    private static final int OP_PEAK = -3;
    private static final int OP_NOT = -4;
    private static final int OP_ADD = -5;
    private static final int OP_SUBTRACT = -6;
    private static final int OP_MULTIPLY = -7;
    private static final int OP_DIVIDE = -8;
    private static final int OP_MIN = -9;
    private static final int OP_MAX = -10;
    private static final int OP_BELOW = -11;
    private static final int OP_ABOVE = -12;
    private static final int OP_EQUAL = -13;
    private static final int OP_AND = -14;
    private static final int OP_OR = -15;

    private final Reader reader = new Reader();
    private final Tape tape = reader.tape;
    private final Survey survey = new Survey();
    private final Sums shortest = new Sums();
    private final Code wordCode = new Code();
    private final Power power = new Power();
    private final int[] heardNumbers = new int[MOST_RECEIVERS];
    private final int[] rowLetters = new int[MOST_SENDERS];
    private final int[] worths = new int[MOST_SENDERS];
    private final int[] imageBytes = new int[2 * MOST_RECEIVERS + 2];
    private int imageLength = 0;
    private House home = new House();
    // What can still fail is built in a spare one (the reader has one too), so that all stays if it does.
    private Led led = new Led();
    private Led spareLed = new Led();

    public ManyOut() {
    }

    // ---- the tape and the house

    public int feed(int a, int b, int c, int d, int e) {
        if (!tape.hasRoom(20)) {
            return NONE;
        }
        tape.addNumber(a);
        tape.addNumber(b);
        tape.addNumber(c);
        tape.addNumber(d);
        tape.addNumber(e);
        return tape.length();
    }

    public boolean end(int n) {
        if (n < 0 || n > tape.length()) {
            return false;
        }
        tape.cutTo(n);
        return true;
    }

    public int house() {
        boolean good = reader.readHouse();
        tape.cutTo(0);
        if (!good) {
            return NONE;
        }
        home = reader.exchange(home);
        Arrays.fill(heardNumbers, 0);
        led.start(home);
        survey.forget();
        shortest.forget();
        wordCode.forget();
        power.forget();
        return home.statements;
    }

    public int fault(int what) {
        if (what == 0) {
            return reader.fault;
        }
        return what == 1 ? reader.place : NONE;
    }

    public int has(int what) {
        switch (what) {
            case 0: return home.letters;
            case 1: return home.senders;
            case 2: return home.receivers;
            case 3: return home.rowsTold;
            case 4: return home.wordsTold;
            case 5: return home.rules.count;
            case 6: return home.limit;
            case 7: return led.done;
            case 8: return led.undoable;
            case 9: return led.redoable;
            default: return NONE;
        }
    }

    public int table(int receiver, int sender, boolean led) {
        if (!home.isReceiver(receiver) || !home.isSender(sender)) {
            return NOTHING;
        }
        return tableBy(led).at(receiver, sender);
    }

    public int product(int first, int second, boolean led) {
        if (!home.isSender(first) || !home.isSender(second)) {
            return NOTHING;
        }
        return tableBy(led).productOf(first, second);
    }

    private Table tableBy(boolean isLed) {
        return isLed ? led.table : home.table;
    }

    // ---- what is heard

    public boolean hear() {
        boolean good = tape.length() == 2 * home.receivers;
        if (good) {
            takeHeard();
        }
        tape.cutTo(0);
        return good;
    }

    private void takeHeard() {
        for (int r = 0; r < home.receivers; r++) {
            heardNumbers[r] = tape.shortAt(2 * r);
        }
        survey.forget();
    }

    public int heard(int receiver) {
        return home.isReceiver(receiver) ? heardNumbers[receiver] : NOTHING;
    }

    public boolean send() {
        if (!takeRow()) {
            return false;
        }
        for (int r = 0; r < home.receivers; r++) {
            heardNumbers[r] = home.table.sentTo(r, rowLetters, home.senders);
        }
        survey.forget();
        return true;
    }

    public long distance() {
        return takeRow() ? home.distanceOf(rowLetters, heardNumbers) : -1;
    }

    private boolean takeRow() {
        boolean good = home.senders > 0 && tape.length() == home.senders;
        for (int s = 0; good && s < home.senders; s++) {
            rowLetters[s] = tape.signedAt(s);
            good = home.isLetter(rowLetters[s]);
        }
        tape.cutTo(0);
        return good;
    }

    public int slips(int most, int seed) {
        if (most < 0 || most > MOST_SLIP || home.receivers == 0) {
            return NONE;
        }
        long x = seed;
        for (int r = 0; r < home.receivers; r++) {
            // The mask is the mod of a power of two, also where the product wraps around.
            x = (1103515245L * x + 12345L) & 0x7fffffffL;
            long slip = x / 64 % (2L * most + 1) - most;
            long sum = heardNumbers[r] + slip;
            heardNumbers[r] = (int) Math.max(LEAST_HEARD, Math.min(MOST_HEARD, sum));
        }
        survey.forget();
        return home.receivers;
    }

    // ---- told back

    public int nearest(int k, int sender) {
        if (!home.isSender(sender) || !isNear(k)) {
            return NOTHING;
        }
        return home.letterInRow(survey.nearRow[k], sender);
    }

    public long near(int k) {
        return isNear(k) ? survey.nearDistance[k] : -1;
    }

    private boolean isNear(int k) {
        survey.learn(home, heardNumbers);
        return k >= 0 && k < survey.nearCount;
    }

    public int within(long limit) {
        return limit < 0 ? NONE : survey.countAhead(home, heardNumbers, limit, home.rowCount());
    }

    public int cancel(int sender) {
        if (!home.isSender(sender)) {
            return NOTHING;
        }
        survey.cancelAll(home, heardNumbers);
        return survey.cancelled[sender];
    }

    public int order(int k) {
        if (!home.isSender(k)) {
            return NONE;
        }
        survey.cancelAll(home, heardNumbers);
        return survey.turns[k];
    }

    public long left() {
        if (home.senders == 0) {
            return -1;
        }
        survey.cancelAll(home, heardNumbers);
        return home.distanceOf(survey.cancelled, heardNumbers);
    }

    public long least(int sender, int letter) {
        if (!home.isSender(sender) || !home.isLetter(letter)) {
            return -1;
        }
        survey.learn(home, heardNumbers);
        return survey.leastWith(sender, home.digitOfLetter(letter));
    }

    public int share(int sender, int letter) {
        if (!home.isSender(sender) || !home.isLetter(letter)) {
            return NONE;
        }
        survey.learn(home, heardNumbers);
        return survey.shareOf(sender, home.digitOfLetter(letter));
    }

    public long sure(int sender) {
        if (!home.isSender(sender) || !isNear(0)) {
            return -1;
        }
        int taken = home.digitInRow(survey.nearRow[0], sender);
        return survey.leastWithout(sender, taken, home.letters) - survey.nearDistance[0];
    }

    // ---- led

    public int lead(int n) {
        return n < 1 || n > 100 ? NONE : led.makeSteps(n);
    }

    public boolean undo() {
        return led.undoStep();
    }

    public boolean redo() {
        return led.redoStep();
    }

    public long leader(int row, int column) {
        return home.isSender(row) && home.isSender(column) ? led.leaderAt(row, column) : NOTHING;
    }

    public int step(int k, int what) {
        if (k < 0 || k >= led.undoable || what < 0 || what > 2) {
            return NOTHING;
        }
        return led.stepAt(k, what);
    }

    public int clash(int first, int second, boolean led) {
        if (!home.isSender(first) || !home.isSender(second) || first == second) {
            return NONE;
        }
        return tableBy(led).clashOf(first, second);
    }

    public int worst(boolean led) {
        return tableBy(led).worstPair(home.senders);
    }

    public long squares(boolean led) {
        return tableBy(led).allSquares();
    }

    // ---- sums, codes, what is put ahead

    public long sums(int senders, int m, int k) {
        if (!home.isSenderSet(senders) || m < 1 || m > 2 || (k != NONE && !home.isSender(k))) {
            return NOTHING;
        }
        shortest.findShortest(home, senders, m);
        return k == NONE ? shortest.leastSquares : shortest.numbers[k];
    }

    public long apart(int senders) {
        return home.isSenderSet(senders) ? shortest.apartOf(home, senders) : -1;
    }

    public int word(int word, int sender) {
        return home.isWord(word) && home.isSender(sender) ? home.letterOfWord(word, sender) : NOTHING;
    }

    public long code(int what) {
        if (what == 3) {
            return home.wordsTold == 0 ? -1 : home.mostPower();
        }
        if (what < 0 || what > 2 || home.wordsTold < 2) {
            return -1;
        }
        wordCode.learn(home);
        wordCode.findLeast(NONE);
        if (what == 0) {
            return wordCode.leastWorth;
        }
        return what == 1 ? wordCode.leastPairs : wordCode.firstPair;
    }

    public int decode() {
        int best = NONE;
        long bestDistance = 0;
        for (int w = 0; w < home.wordsTold; w++) {
            home.copyWord(w, rowLetters);
            long d = home.distanceOf(rowLetters, heardNumbers);
            if (best == NONE || d < bestDistance) {
                best = w;
                bestDistance = d;
            }
        }
        return best;
    }

    public long leave(int what) {
        if (what < 0 || what > 1 || home.wordsTold < 3) {
            return -1;
        }
        wordCode.learn(home);
        int best = NONE;
        long bestWorth = 0;
        for (int w = 0; w < home.wordsTold; w++) {
            wordCode.findLeast(w);
            if (best == NONE || wordCode.leastWorth > bestWorth) {
                best = w;
                bestWorth = wordCode.leastWorth;
            }
        }
        return what == 0 ? best : bestWorth;
    }

    public int behind(int word) {
        if (!home.isWord(word)) {
            return NONE;
        }
        home.copyWord(word, rowLetters);
        long d = home.distanceOf(rowLetters, heardNumbers);
        return survey.countAhead(home, heardNumbers, d, home.rowOfLetters(rowLetters));
    }

    public int unlike(int first, int second) {
        if (!home.isWord(first) || !home.isWord(second)) {
            return NONE;
        }
        int count = 0;
        for (int s = 0; s < home.senders; s++) {
            if (home.letterOfWord(first, s) != home.letterOfWord(second, s)) {
                count++;
            }
        }
        return count;
    }

    public long span(boolean most) {
        if (home.senders == 0) {
            return -1;
        }
        return most ? power.mostOfAll(home) : power.leastOfAll(home);
    }

    public long ahead() {
        return takeRow() ? power.putAhead(home, rowLetters) : power.refuse();
    }

    public int put(int sender) {
        return home.isSender(sender) && power.isPut ? power.put[sender] : NOTHING;
    }

    // ---- senders

    public int worth(int sender) {
        return home.isSender(sender) ? home.worthOf(sender) : NOTHING;
    }

    public int chosen(int n, long apart) {
        if (n < 1 || n > home.senders || apart < 0) {
            return NONE;
        }
        for (int s = 0; s < home.senders; s++) {
            worths[s] = home.worthOf(s);
        }
        int best = NONE;
        int bestWorth = 0;
        for (int set = 1; set < 1 << home.senders; set++) {
            int sum = worthTogether(set);
            boolean better = Integer.bitCount(set) == n && (best == NONE || sum > bestWorth);
            if (better && shortest.apartOf(home, set) >= apart) {
                best = set;
                bestWorth = sum;
            }
        }
        return best;
    }

    private int worthTogether(int set) {
        int sum = 0;
        for (int s = 0; s < home.senders; s++) {
            if ((set >> s & 1) == 1) {
                sum += worths[s];
            }
        }
        return sum;
    }

    // ---- images

    public int image() {
        int length = 0;
        for (int r = 0; r < home.receivers; r++) {
            imageBytes[length] = heardNumbers[r] >> 8 & 255;
            imageBytes[length + 1] = heardNumbers[r] & 255;
            length += 2;
        }
        imageBytes[length] = led.done;
        length++;
        int check = CHECK_START;
        for (int k = 0; k < length; k++) {
            check = checkWith(check, imageBytes[k]);
        }
        imageBytes[length] = check;
        imageLength = length + 1;
        return imageLength;
    }

    public int octet(int k) {
        return k >= 0 && k < imageLength ? imageBytes[k] : NONE;
    }

    public boolean on() {
        boolean good = isImage();
        if (good) {
            int steps = tape.at(tape.length() - 2);
            spareLed.start(home);
            good = spareLed.makeSteps(steps) == steps;
        }
        if (good) {
            takeHeard();
            Led old = led;
            led = spareLed;
            spareLed = old;
        }
        tape.cutTo(0);
        return good;
    }

    private boolean isImage() {
        int last = 2 * home.receivers + 1;
        if (tape.length() != last + 1) {
            return false;
        }
        int check = CHECK_START;
        for (int k = 0; k < last; k++) {
            check = checkWith(check, tape.at(k));
        }
        return tape.at(last) == check;
    }

    private static int checkWith(int check, int next) {
        return (7 * check + next) % 253;
    }

    /** The bytes that were fed and are not used yet. */
    private static final class Tape {
        private final byte[] bytes = new byte[MOST_BYTES];
        private int length = 0;

        int length() {
            return length;
        }

        boolean hasRoom(int n) {
            return length + n <= MOST_BYTES;
        }

        void addNumber(int number) {
            for (int shift = 24; shift >= 0 && length < MOST_BYTES; shift -= 8) {
                bytes[length] = (byte) (number >> shift);
                length++;
            }
        }

        void cutTo(int n) {
            length = n;
        }

        int at(int k) {
            return k >= 0 && k < length ? bytes[k] & 255 : NONE;
        }

        int signedAt(int k) {
            return (byte) at(k);
        }

        int shortAt(int k) {
            return (short) (at(k) << 8 | at(k + 1));
        }
    }

    /** A table of whole numbers, column by column: a column for each sender. What no one told is 0. */
    private static final class Table {
        private final int[] numbers = new int[MOST_SENDERS * MOST_RECEIVERS];

        void clear() {
            Arrays.fill(numbers, 0);
        }

        void copyFrom(Table other) {
            System.arraycopy(other.numbers, 0, numbers, 0, numbers.length);
        }

        int at(int receiver, int sender) {
            return numbers[sender * MOST_RECEIVERS + receiver];
        }

        void setAt(int receiver, int sender, int number) {
            numbers[sender * MOST_RECEIVERS + receiver] = number;
        }

        int productOf(int first, int second) {
            int sum = 0;
            for (int r = 0; r < MOST_RECEIVERS; r++) {
                sum += at(r, first) * at(r, second);
            }
            return sum;
        }

        int peakOf(int sender) {
            int peak = 0;
            for (int r = 0; r < MOST_RECEIVERS; r++) {
                peak = Math.max(peak, Math.abs(at(r, sender)));
            }
            return peak;
        }

        int sentTo(int receiver, int[] row, int senders) {
            int sum = 0;
            for (int s = 0; s < senders; s++) {
                sum += at(receiver, s) * row[s];
            }
            return sum;
        }

        long allSquares() {
            long sum = 0;
            for (int s = 0; s < MOST_SENDERS; s++) {
                sum += productOf(s, s);
            }
            return sum;
        }

        void takeAway(int from, int column, int times) {
            for (int r = 0; r < MOST_RECEIVERS; r++) {
                setAt(r, from, at(r, from) - times * at(r, column));
            }
        }

        int clashOf(int first, int second) {
            long product = productOf(first, second);
            long squares = (long) productOf(first, first) * productOf(second, second);
            return squares == 0 ? 0 : (int) (1000 * product * product / squares);
        }

        int worstPair(int senders) {
            int worst = NONE;
            int worstClash = NONE;
            for (int i = 0; i < senders; i++) {
                for (int j = i + 1; j < senders; j++) {
                    int clash = clashOf(i, j);
                    if (clash > worstClash) {
                        worstClash = clash;
                        worst = 100 * i + j;
                    }
                }
            }
            return worst;
        }
    }

    /** What a house's text tells. */
    private static final class House {
        private final Table table = new Table();
        private final Rules rules = new Rules();
        private final int[] words = new int[MOST_WORDS * MOST_SENDERS];
        private int letters = 0;
        private int senders = 0;
        private int receivers = 0;
        private int rowsTold = 0;
        private int wordsTold = 0;
        private int limit = MOST_LIMIT;
        private int statements = 0;

        void clear() {
            table.clear();
            rules.clear();
            letters = 0;
            senders = 0;
            receivers = 0;
            rowsTold = 0;
            wordsTold = 0;
            limit = MOST_LIMIT;
            statements = 0;
        }

        boolean isSender(int sender) {
            return sender >= 0 && sender < senders;
        }

        boolean isReceiver(int receiver) {
            return receiver >= 0 && receiver < receivers;
        }

        boolean isWord(int word) {
            return word >= 0 && word < wordsTold;
        }

        boolean isSenderSet(int set) {
            return set > 0 && set < 1 << senders;
        }

        boolean isLetter(int number) {
            return number > -letters && number < letters && (number + letters & 1) == 1;
        }

        int letterOfDigit(int digit) {
            return 2 * digit - (letters - 1);
        }

        int digitOfLetter(int letter) {
            return (letter + letters - 1) / 2;
        }

        int rowCount() {
            return senders == 0 ? 0 : rowsOf(senders);
        }

        /** How many rows some senders have. */
        int rowsOf(int some) {
            int count = 1;
            for (int s = 0; s < some; s++) {
                count *= letters;
            }
            return count;
        }

        int digitInRow(int row, int sender) {
            int behind = rowsOf(senders - 1 - sender);
            return behind == 0 || letters == 0 ? 0 : row / behind % letters;
        }

        int letterInRow(int row, int sender) {
            return letterOfDigit(digitInRow(row, sender));
        }

        int rowOfLetters(int[] row) {
            int index = 0;
            for (int s = 0; s < senders; s++) {
                index = index * letters + digitOfLetter(row[s]);
            }
            return index;
        }

        int letterOfWord(int word, int sender) {
            return words[word * MOST_SENDERS + sender];
        }

        void copyWord(int word, int[] row) {
            for (int s = 0; s < senders; s++) {
                row[s] = letterOfWord(word, s);
            }
        }

        long distanceOf(int[] row, int[] heard) {
            long sum = 0;
            for (int r = 0; r < receivers; r++) {
                long miss = heard[r] - table.sentTo(r, row, senders);
                sum += miss * miss;
            }
            return sum;
        }

        int mostPower() {
            int most = 0;
            for (int w = 0; w < wordsTold; w++) {
                int power = 0;
                for (int s = 0; s < senders; s++) {
                    power += letterOfWord(w, s) * letterOfWord(w, s);
                }
                most = Math.max(most, power);
            }
            return most;
        }

        int worthOf(int sender) {
            return rules.worthBy(sender, table.productOf(sender, sender), table.peakOf(sender));
        }
    }

    /** The rules of a house, each as code for a stack: first that of its sum, then that of its test. */
    private static final class Rules {
        // A code is never longer than the text it was read from.
        private final int[] code = new int[MOST_BYTES];
        private final int[] sumAt = new int[MOST_RULES];
        private final int[] testAt = new int[MOST_RULES];
        private final int[] endAt = new int[MOST_RULES];
        // With six open at once no more than some forty numbers wait.
        private final int[] stack = new int[64];
        private int length = 0;
        private int count = 0;

        void clear() {
            length = 0;
            count = 0;
        }

        void add(int op) {
            if (length < code.length) {
                code[length] = op;
                length++;
            }
        }

        void beginRule() {
            if (count < MOST_RULES) {
                sumAt[count] = length;
            }
        }

        void beginTest() {
            if (count < MOST_RULES) {
                testAt[count] = length;
            }
        }

        void endRule() {
            if (count < MOST_RULES) {
                endAt[count] = length;
                count++;
            }
        }

        int worthBy(int sender, int square, int peak) {
            for (int k = 0; k < count; k++) {
                if (valueOf(testAt[k], endAt[k], sender, square, peak) != 0) {
                    return valueOf(sumAt[k], testAt[k], sender, square, peak);
                }
            }
            return 0;
        }

        private int valueOf(int from, int to, int sender, int square, int peak) {
            int top = 0;
            for (int k = from; k < to; k++) {
                int op = code[k];
                if (op > OP_NOT) {
                    if (top < stack.length) {
                        stack[top] = partBy(op, sender, square, peak);
                        top++;
                    }
                } else if (op == OP_NOT) {
                    if (top > 0) {
                        stack[top - 1] = 1 - stack[top - 1];
                    }
                } else if (top > 1) {
                    top--;
                    stack[top - 1] = joined(op, stack[top - 1], stack[top]);
                }
            }
            return stack[0];
        }

        private static int partBy(int op, int sender, int square, int peak) {
            switch (op) {
                case OP_SENDER: return sender;
                case OP_SQUARE: return square;
                case OP_PEAK: return peak;
                default: return op;
            }
        }

        private static int joined(int op, int a, int b) {
            switch (op) {
                case OP_ADD: return bounded((long) a + b);
                case OP_SUBTRACT: return bounded((long) a - b);
                case OP_MULTIPLY: return bounded((long) a * b);
                case OP_DIVIDE: return b == 0 ? 0 : Math.floorDiv(a, b);
                case OP_MIN: return Math.min(a, b);
                case OP_MAX: return Math.max(a, b);
                case OP_BELOW: return a < b ? 1 : 0;
                case OP_ABOVE: return a > b ? 1 : 0;
                case OP_EQUAL: return a == b ? 1 : 0;
                case OP_AND: return a & b;
                case OP_OR: return a | b;
                default: return 0;
            }
        }

        private static int bounded(long value) {
            return (int) Math.max(-BOUND, Math.min(BOUND, value));
        }
    }

    /** Reads the tape as a house. Each reading answers whether it went well; if not, the fault is told. */
    private static final class Reader {
        private final Tape tape = new Tape();
        private House into = new House();
        private int at = 0;
        // The sign that comes next; 0, which no text has, where a blank is missing; NONE at the end.
        private int sign = NONE;
        private int numberAt = 0;
        private int open = 0;
        private int fault = 0;
        private int place = NONE;

        /** Gives the house that was read, and takes one for the next reading. */
        House exchange(House old) {
            House read = into;
            into = old;
            return read;
        }

        boolean readHouse() {
            into.clear();
            open = 0;
            fault = 0;
            place = NONE;
            goOn(0, false);
            for (int n = 0; n <= MOST_STATEMENTS; n++) {
                if (sign == NONE) {
                    return n > 0 || failHere();
                }
                if (n == MOST_STATEMENTS) {
                    return fail(COUNT_FAULT, at);
                }
                if (!readStatement(n == 0) || !readSign(';')) {
                    return false;
                }
                into.statements = n + 1;
            }
            return false;
        }

        private boolean fail(int what, int where) {
            fault = what;
            place = where;
            return false;
        }

        private boolean failHere() {
            return fail(SYNTAX_FAULT, at);
        }

        // ---- signs, words and numbers

        /** Goes to the first sign from there on that is no blank; behind a word or number one is needed. */
        private void goOn(int from, boolean needsBlank) {
            at = from;
            while (at < tape.length() && isBlank(tape.at(at))) {
                at++;
            }
            sign = tape.at(at);
            if (needsBlank && at == from && (isSmall(sign) || isDigit(sign))) {
                sign = 0;
            }
        }

        private static boolean isBlank(int one) {
            return one == 10 || one == 32;
        }

        private static boolean isSmall(int one) {
            return one >= 'a' && one <= 'z';
        }

        private static boolean isDigit(int one) {
            return one >= '0' && one <= '9';
        }

        private boolean takesSign(int wanted) {
            boolean there = sign == wanted;
            if (there) {
                goOn(at + 1, false);
            }
            return there;
        }

        private boolean readSign(int wanted) {
            if (sign != wanted) {
                return failHere();
            }
            goOn(at + 1, false);
            return true;
        }

        private boolean isWordAhead(String word) {
            int length = word.length();
            for (int k = 0; k < length; k++) {
                if (tape.at(at + k) != word.charAt(k)) {
                    return false;
                }
            }
            return sign != 0 && !isSmall(tape.at(at + length));
        }

        private boolean takesWord(String word) {
            boolean there = isWordAhead(word);
            if (there) {
                goOn(at + word.length(), true);
            }
            return there;
        }

        private boolean readWord(String word) {
            return takesWord(word) || failHere();
        }

        /** A number without a sign; NONE with a fault. */
        private int readNumber() {
            if (!isDigit(sign)) {
                failHere();
                return NONE;
            }
            numberAt = at;
            int value = 0;
            for (int n = 0; n < MOST_DIGITS && isDigit(tape.at(at)); n++) {
                value = 10 * value + tape.at(at) - '0';
                at++;
            }
            if (isDigit(tape.at(at))) {
                failHere();
                return NONE;
            }
            goOn(at, true);
            return value;
        }

        /** A number that may have a sign; NOTHING with a fault. */
        private int readSigned() {
            int start = at;
            boolean minus = takesSign('-');
            int value = readNumber();
            if (value == NONE) {
                return NOTHING;
            }
            numberAt = start;
            return minus ? -value : value;
        }

        /** A number without a sign, from least to most; NONE with a fault. */
        private int readBetween(int least, int most) {
            int value = readNumber();
            if (value != NONE && (value < least || value > most)) {
                fail(NUMBER_FAULT, numberAt);
                return NONE;
            }
            return value;
        }

        // ---- statements

        private boolean readStatement(boolean first) {
            if (first) {
                return readWord("house") && readSizes();
            }
            if (isWordAhead("row")) {
                return hasRoom(into.rowsTold, into.receivers) && readWord("row") && readRow();
            }
            if (isWordAhead("word")) {
                return hasRoom(into.wordsTold, MOST_WORDS) && readWord("word") && readLetters();
            }
            if (isWordAhead("worth")) {
                return hasRoom(into.rules.count, MOST_RULES) && readWord("worth") && readRule();
            }
            return readWord("limit") && readLimit();
        }

        private boolean hasRoom(int count, int most) {
            return count < most || fail(COUNT_FAULT, at);
        }

        private boolean readSizes() {
            into.letters = readBetween(2, MOST_LETTERS);
            if (into.letters == NONE) {
                return false;
            }
            into.senders = readBetween(1, MOST_SENDERS);
            if (into.senders == NONE) {
                return false;
            }
            into.receivers = readBetween(1, MOST_RECEIVERS);
            return into.receivers != NONE;
        }

        private boolean readRow() {
            for (int s = 0; s < into.senders; s++) {
                int number = readSigned();
                if (number == NOTHING) {
                    return false;
                }
                if (Math.abs(number) > MOST_NUMBER) {
                    return fail(NUMBER_FAULT, numberAt);
                }
                into.table.setAt(into.rowsTold, s, number);
            }
            into.rowsTold++;
            return true;
        }

        private boolean readLetters() {
            for (int s = 0; s < into.senders; s++) {
                int number = readSigned();
                if (number == NOTHING) {
                    return false;
                }
                if (!into.isLetter(number)) {
                    return fail(NUMBER_FAULT, numberAt);
                }
                into.words[into.wordsTold * MOST_SENDERS + s] = number;
            }
            into.wordsTold++;
            return true;
        }

        private boolean readLimit() {
            into.limit = readBetween(0, MOST_LIMIT);
            return into.limit != NONE;
        }

        private boolean readRule() {
            into.rules.beginRule();
            if (!readSum() || !readWord("when")) {
                return false;
            }
            into.rules.beginTest();
            if (!readTest()) {
                return false;
            }
            into.rules.endRule();
            return true;
        }

        // ---- tests; what may open at once keeps them from going deep

        private boolean opens() {
            if (open >= MOST_OPEN) {
                return fail(OPEN_FAULT, at);
            }
            open++;
            return true;
        }

        private boolean closes() {
            open--;
            return true;
        }

        private boolean adds(int op) {
            into.rules.add(op);
            return true;
        }

        private boolean readTest() {
            boolean good = readBoth();
            for (int n = 0; n < MOST_BYTES && good && takesWord("or"); n++) {
                good = readBoth() && adds(OP_OR);
            }
            return good;
        }

        private boolean readBoth() {
            boolean good = readFact();
            for (int n = 0; n < MOST_BYTES && good && takesWord("and"); n++) {
                good = readFact() && adds(OP_AND);
            }
            return good;
        }

        private boolean readFact() {
            if (isWordAhead("not")) {
                return opens() && readWord("not") && readFact() && closes() && adds(OP_NOT);
            }
            if (sign == '[') {
                return opens() && readSign('[') && readTest() && readSign(']') && closes();
            }
            if (takesWord("all")) {
                return adds(1);
            }
            if (!readSum()) {
                return false;
            }
            int op = comparisonBy(sign);
            if (op == 0) {
                return failHere();
            }
            goOn(at + 1, false);
            return readSum() && adds(op);
        }

        private static int comparisonBy(int one) {
            switch (one) {
                case '<': return OP_BELOW;
                case '>': return OP_ABOVE;
                case '=': return OP_EQUAL;
                default: return 0;
            }
        }

        // ---- sums

        private boolean readSum() {
            boolean good = readProduct();
            for (int n = 0; n < MOST_BYTES && good; n++) {
                if (takesSign('+')) {
                    good = readProduct() && adds(OP_ADD);
                } else if (takesSign('-')) {
                    good = readProduct() && adds(OP_SUBTRACT);
                } else {
                    return true;
                }
            }
            return good;
        }

        private boolean readProduct() {
            boolean good = readPart();
            for (int n = 0; n < MOST_BYTES && good; n++) {
                if (takesSign('*')) {
                    good = readPart() && adds(OP_MULTIPLY);
                } else if (takesSign('/')) {
                    good = readPart() && adds(OP_DIVIDE);
                } else {
                    return true;
                }
            }
            return good;
        }

        private boolean readPart() {
            if (sign == '(') {
                return opens() && readSign('(') && readSum() && readSign(')') && closes();
            }
            if (takesWord("sender")) {
                return adds(OP_SENDER);
            }
            if (takesWord("square")) {
                return adds(OP_SQUARE);
            }
            if (takesWord("peak")) {
                return adds(OP_PEAK);
            }
            if (takesWord("min")) {
                return readPair() && adds(OP_MIN);
            }
            if (takesWord("max")) {
                return readPair() && adds(OP_MAX);
            }
            int number = readNumber();
            return number != NONE && adds(number);
        }

        private boolean readPair() {
            if (sign != '(') {
                return failHere();
            }
            return opens() && readSign('(') && readSum() && readSign(',') && readSum()
                && readSign(')') && closes();
        }
    }

    /** The led table, its leader, and the steps that can be undone and redone. */
    private static final class Led {
        private final Table table = new Table();
        private final long[] leader = new long[MOST_SENDERS * MOST_SENDERS];
        // A ring of steps: from the oldest on those that can be undone, behind them those undone.
        private final int[] steps = new int[3 * MOST_UNDONE];
        private int senders = 0;
        private int oldest = 0;
        private int undoable = 0;
        private int redoable = 0;
        private int done = 0;

        void start(House house) {
            table.copyFrom(house.table);
            senders = house.senders;
            Arrays.fill(leader, 0L);
            for (int s = 0; s < MOST_SENDERS; s++) {
                leader[s * MOST_SENDERS + s] = 1;
            }
            oldest = 0;
            undoable = 0;
            redoable = 0;
            done = 0;
        }

        long leaderAt(int row, int column) {
            return leader[column * MOST_SENDERS + row];
        }

        int stepAt(int k, int what) {
            return steps[slot(k) + what];
        }

        private int slot(int k) {
            return (oldest + k) % MOST_UNDONE * 3;
        }

        int makeSteps(int n) {
            int made = 0;
            while (made < n && makeStep()) {
                made++;
            }
            return made;
        }

        private boolean makeStep() {
            if (done >= MOST_STEPS) {
                return false;
            }
            for (int i = 0; i < senders; i++) {
                for (int j = 0; j < senders; j++) {
                    int times = i == j ? 0 : timesIn(i, j);
                    if (times != 0) {
                        remember(i, j, times);
                        takeAway(i, j, times);
                        done++;
                        return true;
                    }
                }
            }
            return false;
        }

        /** The whole number nearest to product / squares of j, a half going towards 0. */
        private int timesIn(int i, int j) {
            int squares = table.productOf(j, j);
            if (squares == 0) {
                return 0;
            }
            int product = table.productOf(i, j);
            int times = (2 * Math.abs(product) + squares - 1) / (2 * squares);
            return product < 0 ? -times : times;
        }

        private void takeAway(int i, int j, int times) {
            table.takeAway(i, j, times);
            for (int row = 0; row < MOST_SENDERS; row++) {
                leader[i * MOST_SENDERS + row] -= times * leader[j * MOST_SENDERS + row];
            }
        }

        private void remember(int i, int j, int times) {
            redoable = 0;
            if (undoable == MOST_UNDONE) {
                oldest = (oldest + 1) % MOST_UNDONE;
                undoable--;
            }
            int slot = slot(undoable);
            steps[slot] = i;
            steps[slot + 1] = j;
            steps[slot + 2] = times;
            undoable++;
        }

        boolean undoStep() {
            if (undoable == 0) {
                return false;
            }
            undoable--;
            redoable++;
            done--;
            int slot = slot(undoable);
            takeAway(steps[slot], steps[slot + 1], -steps[slot + 2]);
            return true;
        }

        boolean redoStep() {
            if (redoable == 0) {
                return false;
            }
            int slot = slot(undoable);
            takeAway(steps[slot], steps[slot + 1], steps[slot + 2]);
            undoable++;
            redoable--;
            done++;
            return true;
        }
    }

    /**
     * Goes through rows of numbers in their order, a line at a time (all numbers of the last sender),
     * and tells the squares of a target less what each row sends. Products of columns are enough for
     * this: a line then costs a few sums, however many receivers there are.
     */
    private static final class Walk {
        private final long[] products = new long[MOST_SENDERS * MOST_SENDERS];
        // By level: the squares of what the senders ahead leave, and its products with the columns.
        private final long[] base = new long[MOST_SENDERS];
        private final long[] cross = new long[MOST_SENDERS * MOST_SENDERS];
        private final int[] low = new int[MOST_SENDERS];
        private final int[] gap = new int[MOST_SENDERS];
        private final int[] count = new int[MOST_SENDERS];
        private final int[] digit = new int[MOST_SENDERS];
        private int last = 0;

        /** Of a house with senders; the target is nothing. */
        void start(House house) {
            last = Math.max(0, house.senders - 1);
            for (int i = 0; i <= last; i++) {
                for (int j = 0; j <= last; j++) {
                    products[i * MOST_SENDERS + j] = house.table.productOf(i, j);
                }
                cross[i] = 0;
            }
            base[0] = 0;
        }

        void aimAt(House house, int[] heard) {
            long sum = 0;
            for (int r = 0; r < house.receivers; r++) {
                sum += (long) heard[r] * heard[r];
            }
            base[0] = sum;
            for (int s = 0; s <= last; s++) {
                long product = 0;
                for (int r = 0; r < house.receivers; r++) {
                    product += (long) heard[r] * house.table.at(r, s);
                }
                cross[s] = product;
            }
        }

        void setNumbers(int sender, int least, int apart, int many) {
            low[sender] = least;
            gap[sender] = apart;
            count[sender] = many;
        }

        void setAllNumbers(int least, int apart, int many) {
            for (int s = 0; s <= last; s++) {
                setNumbers(s, least, apart, many);
            }
        }

        int lineCount() {
            int lines = 1;
            for (int s = 0; s < last; s++) {
                lines *= count[s];
            }
            return lines;
        }

        void firstLine() {
            Arrays.fill(digit, 0);
            settle(0);
        }

        void nextLine() {
            int s = last - 1;
            while (s >= 0 && digit[s] + 1 >= count[s]) {
                digit[s] = 0;
                s--;
            }
            if (s >= 0) {
                digit[s]++;
                settle(s);
            }
        }

        private void settle(int from) {
            for (int s = from; s < last; s++) {
                int level = s * MOST_SENDERS;
                long x = low[s] + gap[s] * digit[s];
                base[s + 1] = base[s] + x * (x * products[level + s] - 2 * cross[level + s]);
                for (int j = s + 1; j <= last; j++) {
                    cross[level + MOST_SENDERS + j] = cross[level + j] - x * products[level + j];
                }
            }
        }

        /** The squares of the row of this line with a digit of the last sender. */
        long squaresAt(int lastDigit) {
            int own = last * MOST_SENDERS + last;
            long x = low[last] + gap[last] * lastDigit;
            return base[last] + x * (x * products[own] - 2 * cross[own]);
        }

        /** The first of the line's first so many digits with which the squares are least. */
        int bestDigit(int many) {
            int own = last * MOST_SENDERS + last;
            long widen = products[own] * gap[last];
            if (widen <= 0) {
                return 0;
            }
            // Squares along a line fall to one place and rise from there: it is one of two digits.
            long place = Math.floorDiv(cross[own] - low[last] * products[own], widen);
            int d = (int) Math.max(0, Math.min(many - 1, place));
            return d + 1 < many && squaresAt(d + 1) < squaresAt(d) ? d + 1 : d;
        }
    }

    /**
     * What was sent told back: by a look at all rows the nearest ones, and of each letter the least and the
     * weight; and by cancelling.
     */
    private static final class Survey {
        private final Walk walk = new Walk();
        private final long[] nearDistance = new long[MOST_NEAR];
        private final int[] nearRow = new int[MOST_NEAR];
        private final long[] least = new long[MOST_SENDERS * MOST_LETTERS];
        private final long[] weight = new long[MOST_SENDERS * MOST_LETTERS];
        private final int[] turns = new int[MOST_SENDERS];
        private final int[] cancelled = new int[MOST_SENDERS];
        private final int[] left = new int[MOST_RECEIVERS];
        private int nearCount = 0;
        private long allWeight = 0;
        private boolean known = false;

        void forget() {
            known = false;
        }

        private void startWalk(House house, int[] heard) {
            walk.start(house);
            walk.aimAt(house, heard);
            walk.setAllNumbers(1 - house.letters, 2, house.letters);
            walk.firstLine();
        }

        void learn(House house, int[] heard) {
            if (known || house.senders == 0) {
                return;
            }
            known = true;
            nearCount = 0;
            allWeight = 0;
            Arrays.fill(least, FAR);
            Arrays.fill(weight, 0L);
            startWalk(house, heard);
            int lines = walk.lineCount();
            for (int line = 0; line < lines; line++) {
                learnLine(line * house.letters, house.letters);
                walk.nextLine();
            }
        }

        private void learnLine(int firstRow, int letters) {
            long lineLeast = FAR;
            long lineWeight = 0;
            for (int d = 0; d < letters; d++) {
                long distance = walk.squaresAt(d);
                long weighs = distance < 0 ? 0 : WEIGHT / (1 + distance);
                note(walk.last, d, distance, weighs);
                admit(firstRow + d, distance);
                lineLeast = Math.min(lineLeast, distance);
                lineWeight += weighs;
            }
            for (int s = 0; s < walk.last; s++) {
                note(s, walk.digit[s], lineLeast, lineWeight);
            }
            allWeight += lineWeight;
        }

        private void note(int sender, int digit, long distance, long weighs) {
            int k = sender * MOST_LETTERS + digit;
            least[k] = Math.min(least[k], distance);
            weight[k] += weighs;
        }

        /** Rows come in their order, so one goes behind those that are as near. */
        private void admit(int row, long distance) {
            if (nearCount == MOST_NEAR) {
                if (distance >= nearDistance[MOST_NEAR - 1]) {
                    return;
                }
                nearCount--;
            }
            int k = nearCount;
            while (k > 0 && nearDistance[k - 1] > distance) {
                nearDistance[k] = nearDistance[k - 1];
                nearRow[k] = nearRow[k - 1];
                k--;
            }
            nearDistance[k] = distance;
            nearRow[k] = row;
            nearCount++;
        }

        long leastWith(int sender, int digit) {
            return least[sender * MOST_LETTERS + digit];
        }

        long leastWithout(int sender, int digit, int letters) {
            long found = FAR;
            for (int d = 0; d < letters; d++) {
                if (d != digit) {
                    found = Math.min(found, leastWith(sender, d));
                }
            }
            return found;
        }

        int shareOf(int sender, int digit) {
            if (allWeight <= 0) {
                return 0;
            }
            return (int) (1000 * weight[sender * MOST_LETTERS + digit] / allWeight);
        }

        /** How many rows are nearer than a distance, or just as near and ahead of a row. */
        int countAhead(House house, int[] heard, long distance, int row) {
            if (house.senders == 0) {
                return 0;
            }
            startWalk(house, heard);
            int count = 0;
            int lines = walk.lineCount();
            int now = 0;
            for (int line = 0; line < lines; line++) {
                for (int d = 0; d < house.letters; d++) {
                    long here = walk.squaresAt(d);
                    if (here < distance || here == distance && now < row) {
                        count++;
                    }
                    now++;
                }
                walk.nextLine();
            }
            return count;
        }

        // ---- by cancelling

        void cancelAll(House house, int[] heard) {
            findTurns(house);
            System.arraycopy(heard, 0, left, 0, MOST_RECEIVERS);
            for (int k = 0; k < house.senders; k++) {
                int sender = turns[k];
                cancelled[sender] = bestLetter(house, sender);
                for (int r = 0; r < house.receivers; r++) {
                    left[r] -= house.table.at(r, sender) * cancelled[sender];
                }
            }
        }

        private void findTurns(House house) {
            for (int s = 0; s < house.senders; s++) {
                int squares = house.table.productOf(s, s);
                int k = s;
                while (k > 0 && house.table.productOf(turns[k - 1], turns[k - 1]) < squares) {
                    turns[k] = turns[k - 1];
                    k--;
                }
                turns[k] = s;
            }
        }

        private int bestLetter(House house, int sender) {
            int best = 0;
            long bestSquares = FAR;
            for (int d = 0; d < house.letters; d++) {
                int letter = house.letterOfDigit(d);
                long squares = squaresWith(house, sender, letter);
                if (squares < bestSquares) {
                    bestSquares = squares;
                    best = letter;
                }
            }
            return best;
        }

        private long squaresWith(House house, int sender, int letter) {
            long sum = 0;
            for (int r = 0; r < house.receivers; r++) {
                long miss = left[r] - house.table.at(r, sender) * letter;
                sum += miss * miss;
            }
            return sum;
        }
    }

    /** The shortest sums of columns. */
    private static final class Sums {
        private final Walk walk = new Walk();
        private final int[] numbers = new int[MOST_SENDERS];
        private final long[] apartKnown = new long[1 << MOST_SENDERS];
        private long leastSquares = 0;

        Sums() {
            Arrays.fill(apartKnown, -1L);
        }

        void forget() {
            Arrays.fill(apartKnown, -1L);
        }

        /** Even numbers up to 2 (letters - 1) are twice those up to letters - 1. */
        long apartOf(House house, int set) {
            if (apartKnown[set] < 0) {
                findShortest(house, set, house.letters - 1);
                apartKnown[set] = 4 * leastSquares;
            }
            return apartKnown[set];
        }

        /**
         * Rows of numbers -m .. m behind the one of all 0 are those ahead of it with other signs: so only
         * those ahead are looked at, which also leaves the one of all 0 out.
         */
        void findShortest(House house, int set, int m) {
            walk.start(house);
            for (int s = 0; s < house.senders; s++) {
                boolean in = (set >> s & 1) == 1;
                walk.setNumbers(s, in ? -m : 0, 1, in ? 2 * m + 1 : 1);
            }
            leastSquares = FAR;
            int whole = walk.count[walk.last];
            int half = (whole - 1) / 2;
            int middle = (walk.lineCount() - 1) / 2;
            walk.firstLine();
            for (int line = 0; line < middle; line++) {
                lookAtLine(whole);
                walk.nextLine();
            }
            if (half > 0) {
                lookAtLine(half);
            }
        }

        private void lookAtLine(int many) {
            int d = walk.bestDigit(many);
            long squares = walk.squaresAt(d);
            if (squares < leastSquares) {
                leastSquares = squares;
                for (int s = 0; s < walk.last; s++) {
                    numbers[s] = walk.low[s] + walk.digit[s];
                }
                numbers[walk.last] = walk.low[walk.last] + d;
            }
        }
    }

    /** The code of words: what each pair of them is worth. */
    private static final class Code {
        private final long[] worth = new long[MOST_WORDS * MOST_WORDS];
        private final int[] difference = new int[MOST_SENDERS];
        private int words = 0;
        private boolean known = false;
        private long leastWorth = 0;
        private int leastPairs = 0;
        private int firstPair = 0;

        void forget() {
            known = false;
        }

        void learn(House house) {
            if (known) {
                return;
            }
            known = true;
            words = house.wordsTold;
            for (int i = 0; i < words; i++) {
                for (int j = i + 1; j < words; j++) {
                    worth[i * MOST_WORDS + j] = worthOfPair(house, i, j);
                }
            }
        }

        private long worthOfPair(House house, int first, int second) {
            for (int s = 0; s < house.senders; s++) {
                difference[s] = house.letterOfWord(first, s) - house.letterOfWord(second, s);
            }
            long sum = 0;
            for (int r = 0; r < house.receivers; r++) {
                long sent = house.table.sentTo(r, difference, house.senders);
                sum += sent * sent;
            }
            return sum;
        }

        /** The least worth of all words but one (NONE leaves none out). */
        void findLeast(int without) {
            leastWorth = FAR;
            leastPairs = 0;
            for (int i = 0; i < words; i++) {
                for (int j = i + 1; j < words; j++) {
                    if (i != without && j != without) {
                        weighPair(i, j);
                    }
                }
            }
        }

        private void weighPair(int i, int j) {
            long here = worth[i * MOST_WORDS + j];
            if (here < leastWorth) {
                leastWorth = here;
                leastPairs = 0;
                firstPair = 100 * i + j;
            }
            if (here == leastWorth) {
                leastPairs++;
            }
        }
    }

    /** Numbers put ahead, so that less power goes out. */
    private static final class Power {
        private final Walk walk = new Walk();
        private final int[] put = new int[MOST_SENDERS];
        private final int[] found = new int[MOST_SENDERS];
        private final int[] letters = new int[MOST_SENDERS];
        private final int[] tried = new int[MOST_SENDERS];
        private final long[] pull = new long[MOST_SENDERS];
        private long squares = 0;
        private boolean isPut = false;
        private long spanLeast = -1;
        private long spanMost = -1;

        void forget() {
            isPut = false;
            spanLeast = -1;
            spanMost = -1;
        }

        long refuse() {
            isPut = false;
            return -1;
        }

        long putAhead(House house, int[] row) {
            walk.start(house);
            long least = leastFor(house, row, -1);
            if (least > 1000L * house.limit) {
                return refuse();
            }
            System.arraycopy(found, 0, put, 0, MOST_SENDERS);
            isPut = true;
            return least;
        }

        /** The least squares of a row; the search ends early with some that are not above enough. */
        private long leastFor(House house, int[] row, long enough) {
            int period = 2 * house.letters;
            for (int s = 0; s < house.senders; s++) {
                walk.setNumbers(s, row[s] - period, period, 3);
            }
            walk.firstLine();
            long least = FAR;
            int lines = walk.lineCount();
            for (int line = 0; line < lines && least > enough; line++) {
                int d = walk.bestDigit(3);
                long here = walk.squaresAt(d);
                if (here < least) {
                    least = here;
                    keepFound(d);
                }
                walk.nextLine();
            }
            return least;
        }

        private void keepFound(int lastDigit) {
            for (int s = 0; s < walk.last; s++) {
                found[s] = walk.digit[s] - 1;
            }
            found[walk.last] = lastDigit - 1;
        }

        /**
         * Letters and what is added to them are together all numbers of a kind (odd or even) below three
         * times the letters; half of their rows will do, since signs do not matter.
         */
        long leastOfAll(House house) {
            if (spanLeast >= 0) {
                return spanLeast;
            }
            int many = 3 * house.letters;
            walk.start(house);
            walk.setAllNumbers(1 - many, 2, many);
            walk.firstLine();
            long floor = leastThinkable(house);
            // Even numbers can all be 0, and then 0 is sent.
            long least = house.letters % 2 == 1 ? 0 : FAR;
            int lines = (walk.lineCount() + 1) / 2;
            for (int line = 0; line < lines && least > floor; line++) {
                least = Math.min(least, walk.squaresAt(walk.bestDigit(many)));
                walk.nextLine();
            }
            spanLeast = least;
            return least;
        }

        /** Where odd numbers go times numbers that are odd together, something odd is heard: 1 at least. */
        private static long leastThinkable(House house) {
            int odd = 0;
            for (int r = 0; r < house.receivers && house.letters % 2 == 0; r++) {
                int together = 0;
                for (int s = 0; s < house.senders; s++) {
                    together += house.table.at(r, s);
                }
                odd += together & 1;
            }
            return odd;
        }

        /** Half of the rows will do here too; a row that soon falls to the most so far needs no search. */
        long mostOfAll(House house) {
            if (spanMost >= 0) {
                return spanMost;
            }
            walk.start(house);
            startTrying(house);
            long most = -1;
            int rows = (house.rowCount() + 1) / 2;
            for (int row = 0; row < rows; row++) {
                if (!fallsTo(most, house)) {
                    most = Math.max(most, leastFor(house, letters, most));
                    tryFound(house);
                }
                nextLetters(house);
            }
            spanMost = most;
            return most;
        }

        private void startTrying(House house) {
            Arrays.fill(tried, 0);
            Arrays.fill(pull, 0L);
            squares = 0;
            for (int s = 0; s < house.senders; s++) {
                letters[s] = 1 - house.letters;
                move(s, letters[s]);
            }
        }

        /** What was found for a row is a good start for the next one. */
        private void tryFound(House house) {
            for (int s = 0; s < house.senders; s++) {
                if (tried[s] != found[s]) {
                    move(s, 2L * house.letters * (found[s] - tried[s]));
                    tried[s] = found[s];
                }
            }
        }

        private void nextLetters(House house) {
            int s = walk.last;
            while (s > 0 && letters[s] == house.letters - 1) {
                letters[s] = 1 - house.letters;
                move(s, 2 * letters[s]);
                s--;
            }
            letters[s] += 2;
            move(s, 2);
        }

        /** A sender's number grows: the squares of what is sent follow, and its products with the columns. */
        private void move(int sender, long by) {
            int row = sender * MOST_SENDERS;
            squares += by * (2 * pull[sender] + by * walk.products[row + sender]);
            for (int j = 0; j <= walk.last; j++) {
                pull[j] += by * walk.products[row + j];
            }
        }

        /** Whether numbers tried for the row ahead, bettered one by one, bring this row to a bound. */
        private boolean fallsTo(long bound, House house) {
            int period = 2 * house.letters;
            // No numbers come twice, since the squares fall: so there are at most 3 to the 5 rounds.
            for (int round = 0; round < 243 && squares > bound; round++) {
                long before = squares;
                for (int s = 0; s <= walk.last && squares > bound; s++) {
                    better(s, period);
                }
                if (squares == before) {
                    return false;
                }
            }
            return squares <= bound;
        }

        /** Adds 1 to a sender's number, or takes 1 from it, if the squares fall by that. */
        private void better(int sender, int period) {
            int step = pull[sender] > 0 ? -1 : 1;
            if (tried[sender] + step < -1 || tried[sender] + step > 1) {
                return;
            }
            long by = (long) step * period;
            if (by * (2 * pull[sender] + by * walk.products[sender * MOST_SENDERS + sender]) < 0) {
                tried[sender] += step;
                move(sender, by);
            }
        }
    }
}
