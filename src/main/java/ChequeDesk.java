/**
 * A desk that reads the line at a cheque's foot, checks its fields, and balances batches of papers.
 * Everything that a call needs is made once, with the desk: no call makes an object of its own.
 */
public final class ChequeDesk {
    public static final int NONE = -1;

    private static final int SIGNS = 12;
    private static final int WIDTHS = 6;
    private static final int FIRST_SPEED = 4;
    private static final int SPEEDS = 9;
    private static final int MOST_TICKS = 120;
    private static final int LONGEST_TICK = 60;
    private static final int MOST_PLACES = MOST_TICKS / WIDTHS;
    private static final int ABOVE_ANY_COST = MOST_TICKS * LONGEST_TICK + 1;

    private static final int LINE_PLACES = 18;
    private static final int DIGIT = -1;
    /** What each place of a LINE holds: that mark, or any digit. */
    private static final int[] LAYOUT = {
        10, DIGIT, DIGIT, DIGIT, DIGIT,
        11, DIGIT, DIGIT, DIGIT, DIGIT, DIGIT, DIGIT,
        11, DIGIT, DIGIT, DIGIT, DIGIT, 10
    };
    /** How often each place of a LINE counts in the sum of check. */
    private static final int[] WEIGHTS = {0, 0, 0, 0, 0, 0, 7, 3, 1, 7, 3, 1, 0, 0, 0, 0, 0, 0};
    /** Where BANK, ACCOUNT and NUMBER begin in a LINE, and how many digits they have. */
    private static final int[] FIELD_STARTS = {1, 6, 13};
    private static final int[] FIELD_LENGTHS = {4, 6, 4};
    private static final int BANK = 0;
    private static final int ACCOUNT = 1;
    private static final int NUMBER = 2;

    private static final int MOST_BATCHES = 20;
    private static final int MOST_PAPERS = 100;
    private static final int MOST_TOLD = 1000000000;
    private static final int MOST_AMOUNT = 9999999;
    private static final int AMOUNT_DIGITS = 7;

    private static final int WRONG_DIGIT = 0;
    private static final int SWAPPED_DIGITS = 1;
    private static final int CAME_TWICE = 2;
    private static final int LACKS = 3;

    private final Alphabet alphabet;
    private final int[] ticks;
    private int tickCount;
    private final Head head;
    private final Reading reading;
    private final Ledger ledger;
    private final Slips found;

    public ChequeDesk() {
        alphabet = new Alphabet();
        ticks = new int[MOST_TICKS];
        tickCount = 0;
        head = new Head();
        reading = new Reading();
        ledger = new Ledger();
        found = new Slips();
    }

    public int teach(int sign, int widths) throws IllegalArgumentException {
        if (sign < 0 || sign >= SIGNS) {
            throw new IllegalArgumentException("no such sign");
        }
        if (!Alphabet.areWidths(widths)) {
            throw new IllegalArgumentException("widths are six digits of 1 to 3");
        }
        return alphabet.learn(sign, widths) ? 1 : 0;
    }

    public int tick(int n) throws IllegalArgumentException {
        if (n < 1 || n > LONGEST_TICK) {
            throw new IllegalArgumentException("a tick is 1 to 60");
        }
        if (tickCount >= MOST_TICKS) {
            return NONE;
        }
        ticks[tickCount] = n;
        tickCount++;
        return tickCount;
    }

    public int read() {
        if (!alphabet.isComplete()) {
            return -1;
        }
        if (tickCount == 0 || tickCount % WIDTHS != 0) {
            return -2;
        }
        boolean turned = layTheCheaperWay();
        reading.begin(tickCount / WIDTHS, head.leastCost(), turned);
        head.pickSigns(reading.signs, reading.cost);
        reading.gap = head.leastCostBeside(reading.signs) - reading.cost;
        head.pickSpeeds(reading.signs, reading.speeds, reading.cost);
        reading.checkLine();
        tickCount = 0;
        return reading.cost;
    }

    /** Leaves the head with the way that is BEST, and answers whether that is from the end. */
    private boolean layTheCheaperWay() {
        int turnedCost = measure(true);
        int plainCost = measure(false);
        if (turnedCost >= plainCost) {
            return false;
        }
        measure(true);
        return true;
    }

    private int measure(boolean turned) {
        head.lay(ticks, tickCount, turned);
        head.weigh(alphabet.widths);
        head.allowAnySigns();
        return head.leastCost();
    }

    public int about(int what) throws IllegalArgumentException {
        if (what < 0 || what > 4) {
            throw new IllegalArgumentException("what is 0 to 4");
        }
        if (!reading.isThere()) {
            return NONE;
        }
        switch (what) {
            case 0:
                return reading.places;
            case 1:
                return reading.cost;
            case 2:
                return reading.gap;
            case 3:
                return reading.turned ? 1 : 0;
            default:
                return reading.fits() ? 1 : 0;
        }
    }

    public int place(int k, int what) throws IllegalArgumentException {
        if (what < 0 || what > 1) {
            throw new IllegalArgumentException("what is 0 or 1");
        }
        if (k < 0 || k >= reading.places) {
            return NONE;
        }
        return what == 0 ? reading.signs[k] : reading.speeds[k];
    }

    public int field(int what) throws IllegalArgumentException {
        if (what < BANK || what > NUMBER) {
            throw new IllegalArgumentException("what is 0 to 2");
        }
        return reading.fits() ? reading.digitsOf(what) : NONE;
    }

    public int others() {
        return reading.countOthers();
    }

    public int other(int k, int what) throws IllegalArgumentException {
        if (what < 0 || what > 2) {
            throw new IllegalArgumentException("what is 0 to 2");
        }
        int code = reading.findOther(k);
        if (code == NONE) {
            return NONE;
        }
        int at = code / SIGNS;
        int sign = code % SIGNS;
        if (what == 0) {
            return at;
        }
        if (what == 1) {
            return sign;
        }
        return head.leastCostWith(reading.signs, at, sign) - reading.cost;
    }

    public int choose(int k) {
        int code = reading.findOther(k);
        if (code == NONE) {
            return 0;
        }
        int at = code / SIGNS;
        int sign = code % SIGNS;
        reading.become(at, sign, head.leastCostWith(reading.signs, at, sign));
        return 1;
    }

    public int batch(int told) throws IllegalArgumentException, IllegalStateException {
        if (told < 0 || told > MOST_TOLD) {
            throw new IllegalArgumentException("a told sum is 0 to 1,000,000,000");
        }
        if (ledger.batches >= MOST_BATCHES) {
            throw new IllegalStateException("there are 20 batches");
        }
        return ledger.open(told);
    }

    public int paper(int batch, int amount) throws IndexOutOfBoundsException, IllegalArgumentException {
        requireBatch(batch);
        requireAmount(amount);
        if (!reading.fits()) {
            return -1;
        }
        if (ledger.findTwin(reading) != NONE) {
            return -2;
        }
        if (ledger.papers >= MOST_PAPERS) {
            return -3;
        }
        int number = ledger.take(batch, amount, reading);
        reading.end();
        return number;
    }

    public int amount(int paper, int amount) throws IndexOutOfBoundsException, IllegalArgumentException {
        if (paper < 0 || paper >= ledger.papers) {
            throw new IndexOutOfBoundsException("no such paper");
        }
        requireAmount(amount);
        int before = ledger.amounts[paper];
        ledger.amounts[paper] = amount;
        return before;
    }

    public int twin() {
        return reading.fits() ? ledger.findTwin(reading) : NONE;
    }

    public long out(int batch) throws IndexOutOfBoundsException {
        requireBatch(batch);
        return ledger.sumOut(batch);
    }

    public int slips(int batch) throws IndexOutOfBoundsException {
        requireBatch(batch);
        found.explain(ledger, batch);
        return found.size;
    }

    public int slip(int batch, int k, int what) throws IndexOutOfBoundsException, IllegalArgumentException {
        requireBatch(batch);
        if (what < 0 || what > 2) {
            throw new IllegalArgumentException("what is 0 to 2");
        }
        found.explain(ledger, batch);
        if (k < 0 || k >= found.size) {
            return NONE;
        }
        if (what == 0) {
            return found.kinds[k];
        }
        return what == 1 ? found.papers[k] : found.amounts[k];
    }

    public int count(int what) {
        switch (what) {
            case 0:
                return alphabet.taught;
            case 1:
                return tickCount;
            case 2:
                return ledger.batches;
            case 3:
                return ledger.papers;
            default:
                return NONE;
        }
    }

    private void requireBatch(int batch) {
        if (batch < 0 || batch >= ledger.batches) {
            throw new IndexOutOfBoundsException("no such batch");
        }
    }

    private static void requireAmount(int amount) {
        if (amount < 0 || amount > MOST_AMOUNT) {
            throw new IllegalArgumentException("an amount is 0 to 9,999,999");
        }
    }

    /** The WIDTHS of the SIGNS, as far as they are taught. */
    private static final class Alphabet {
        private static final int LEAST_NUMBER = 111111;
        private static final int MOST_NUMBER = 333333;

        /** The WIDTHS of each SIGN as the number they were taught by; 0: not yet. */
        private final int[] numbers = new int[SIGNS];
        final int[] widths = new int[SIGNS * WIDTHS];
        int taught = 0;

        static boolean areWidths(int number) {
            if (number < LEAST_NUMBER || number > MOST_NUMBER) {
                return false;
            }
            int rest = number;
            for (int i = 0; i < WIDTHS; i++) {
                int digit = rest % 10;
                if (digit < 1 || digit > 3) {
                    return false;
                }
                rest = rest / 10;
            }
            return true;
        }

        boolean learn(int sign, int number) {
            if (numbers[sign] == number) {
                return false;
            }
            if (numbers[sign] == 0) {
                taught++;
            }
            numbers[sign] = number;
            int rest = number;
            for (int i = WIDTHS - 1; i >= 0; i--) {
                widths[sign * WIDTHS + i] = rest % 10;
                rest = rest / 10;
            }
            return true;
        }

        boolean isComplete() {
            return taught == SIGNS;
        }
    }

    /**
     * The reading head. It keeps what every SIGN at every SPEED costs at every place, so that OTHERS can be
     * weighed later by the STRIPES and the SIGNS of the reading, whatever is ticked or taught in between.
     */
    private static final class Head {
        private int places = 0;
        private final int[] laid = new int[MOST_TICKS];
        /** By place, SIGN and SPEED. */
        private final int[] costs = new int[MOST_PLACES * SIGNS * SPEEDS];
        /** By place and SPEED: the cost there under the SIGNS that are allowed now. */
        private final int[] here = new int[MOST_PLACES * SPEEDS];
        /** By place and SPEED: the least cost of all later places under the SIGNS that are allowed now. */
        private final int[] behind = new int[MOST_PLACES * SPEEDS];
        /** By SPEED: the least cost of all earlier places, as a walk from the first place goes on. */
        private final int[] before = new int[SPEEDS];
        private final int[] joined = new int[SPEEDS];

        void lay(int[] ticks, int length, boolean turned) {
            places = length / WIDTHS;
            for (int i = 0; i < length; i++) {
                laid[i] = turned ? ticks[length - 1 - i] : ticks[i];
            }
        }

        void weigh(int[] widths) {
            for (int place = 0; place < places; place++) {
                for (int sign = 0; sign < SIGNS; sign++) {
                    int row = rowOf(place, sign);
                    for (int speed = 0; speed < SPEEDS; speed++) {
                        costs[row + speed] = distance(place, widths, sign, FIRST_SPEED + speed);
                    }
                }
            }
        }

        private static int rowOf(int place, int sign) {
            return (place * SIGNS + sign) * SPEEDS;
        }

        private int distance(int place, int[] widths, int sign, int speed) {
            int sum = 0;
            for (int i = 0; i < WIDTHS; i++) {
                sum += Math.abs(laid[place * WIDTHS + i] - speed * widths[sign * WIDTHS + i]);
            }
            return sum;
        }

        void allowAnySigns() {
            for (int place = 0; place < places; place++) {
                for (int speed = 0; speed < SPEEDS; speed++) {
                    int least = costs[rowOf(place, 0) + speed];
                    for (int sign = 1; sign < SIGNS; sign++) {
                        least = Math.min(least, costs[rowOf(place, sign) + speed]);
                    }
                    here[place * SPEEDS + speed] = least;
                }
            }
            sumFromTheEnd();
        }

        private void allowOnly(int[] signs) {
            for (int place = 0; place < places; place++) {
                allowAt(place, signs[place]);
            }
        }

        private void allowAt(int place, int sign) {
            for (int speed = 0; speed < SPEEDS; speed++) {
                here[place * SPEEDS + speed] = costs[rowOf(place, sign) + speed];
            }
        }

        private void sumFromTheEnd() {
            for (int place = places - 1; place >= 0; place--) {
                int row = place * SPEEDS;
                boolean isLast = place == places - 1;
                for (int speed = 0; speed < SPEEDS; speed++) {
                    behind[row + speed] = isLast ? 0 : leastNear(speed);
                }
                for (int speed = 0; speed < SPEEDS; speed++) {
                    joined[speed] = here[row + speed] + behind[row + speed];
                }
            }
        }

        /** The least that is joined at a SPEED that may stand beside this one. */
        private int leastNear(int speed) {
            int least = joined[speed];
            if (speed > 0) {
                least = Math.min(least, joined[speed - 1]);
            }
            if (speed < SPEEDS - 1) {
                least = Math.min(least, joined[speed + 1]);
            }
            return least;
        }

        /** Of all readings with the SIGNS that are allowed now. */
        int leastCost() {
            int least = here[0] + behind[0];
            for (int speed = 1; speed < SPEEDS; speed++) {
                least = Math.min(least, here[speed] + behind[speed]);
            }
            return least;
        }

        private void startWalk() {
            for (int speed = 0; speed < SPEEDS; speed++) {
                before[speed] = 0;
            }
        }

        /** Goes on to the next place, where the one that is left costs what stands in this row. */
        private void walkOn(int[] table, int row) {
            for (int speed = 0; speed < SPEEDS; speed++) {
                joined[speed] = before[speed] + table[row + speed];
            }
            for (int speed = 0; speed < SPEEDS; speed++) {
                before[speed] = leastNear(speed);
            }
        }

        /** The least cost of a reading with this SIGN at this place, given the walk up to it. */
        private int leastThrough(int place, int sign) {
            int row = rowOf(place, sign);
            int rest = place * SPEEDS;
            int least = before[0] + costs[row] + behind[rest];
            for (int speed = 1; speed < SPEEDS; speed++) {
                least = Math.min(least, before[speed] + costs[row + speed] + behind[rest + speed]);
            }
            return least;
        }

        /** Any SIGNS are allowed. The walk carries all SPEEDS, for SIGNS come first in order, then SPEEDS. */
        void pickSigns(int[] signs, int cost) {
            startWalk();
            for (int place = 0; place < places; place++) {
                int sign = 0;
                while (sign < SIGNS - 1 && leastThrough(place, sign) != cost) {
                    sign++;
                }
                signs[place] = sign;
                walkOn(costs, rowOf(place, sign));
            }
        }

        /** Any SIGNS are allowed. The least cost of a reading whose SIGNS are not these. */
        int leastCostBeside(int[] signs) {
            int least = ABOVE_ANY_COST;
            startWalk();
            for (int place = 0; place < places; place++) {
                for (int sign = 0; sign < SIGNS; sign++) {
                    if (sign != signs[place]) {
                        least = Math.min(least, leastThrough(place, sign));
                    }
                }
                walkOn(here, place * SPEEDS);
            }
            return least;
        }

        void pickSpeeds(int[] signs, int[] speeds, int cost) {
            allowOnly(signs);
            sumFromTheEnd();
            int spent = 0;
            int first = 0;
            int last = SPEEDS - 1;
            for (int place = 0; place < places; place++) {
                int row = place * SPEEDS;
                int speed = first;
                while (speed < last && spent + here[row + speed] + behind[row + speed] != cost) {
                    speed++;
                }
                speeds[place] = FIRST_SPEED + speed;
                spent += here[row + speed];
                first = Math.max(0, speed - 1);
                last = Math.min(SPEEDS - 1, speed + 1);
            }
        }

        /** The least cost of a reading with these SIGNS but another at one place. */
        int leastCostWith(int[] signs, int place, int sign) {
            allowOnly(signs);
            allowAt(place, sign);
            sumFromTheEnd();
            return leastCost();
        }
    }

    /** The latest reading, if there is one. */
    private static final class Reading {
        /** 0: there is none. */
        int places = 0;
        int cost = 0;
        int gap = 0;
        boolean turned = false;
        final int[] signs = new int[MOST_PLACES];
        final int[] speeds = new int[MOST_PLACES];
        /** Of a row as long as a LINE: at how many places is a SIGN that cannot stand there. */
        private int strangers = 0;
        private int checkSum = 0;

        void begin(int length, int least, boolean fromTheEnd) {
            places = length;
            cost = least;
            turned = fromTheEnd;
        }

        void end() {
            places = 0;
        }

        boolean isThere() {
            return places > 0;
        }

        private boolean isLong() {
            return places == LINE_PLACES;
        }

        /** Kept as sums, so that each of the OTHERS is judged without a walk over the whole row. */
        void checkLine() {
            strangers = 0;
            checkSum = 0;
            if (!isLong()) {
                return;
            }
            for (int place = 0; place < LINE_PLACES; place++) {
                if (!belongs(place, signs[place])) {
                    strangers++;
                }
                checkSum += WEIGHTS[place] * signs[place];
            }
        }

        private static boolean belongs(int place, int sign) {
            return LAYOUT[place] == DIGIT ? sign < 10 : sign == LAYOUT[place];
        }

        boolean fits() {
            return isLong() && strangers == 0 && checkSum % 10 == 0;
        }

        private boolean isOther(int place, int sign) {
            int old = signs[place];
            if (sign == old || !belongs(place, sign)) {
                return false;
            }
            int left = belongs(place, old) ? strangers : strangers - 1;
            return left == 0 && (checkSum + WEIGHTS[place] * (sign - old)) % 10 == 0;
        }

        int countOthers() {
            if (!isLong()) {
                return 0;
            }
            int others = 0;
            for (int place = 0; place < LINE_PLACES; place++) {
                for (int sign = 0; sign < SIGNS; sign++) {
                    if (isOther(place, sign)) {
                        others++;
                    }
                }
            }
            return others;
        }

        /** The k-th of the OTHERS as its place times SIGNS plus its SIGN, or NONE. */
        int findOther(int k) {
            if (!isLong() || k < 0) {
                return NONE;
            }
            int left = k;
            for (int place = 0; place < LINE_PLACES; place++) {
                for (int sign = 0; sign < SIGNS; sign++) {
                    if (isOther(place, sign)) {
                        if (left == 0) {
                            return place * SIGNS + sign;
                        }
                        left--;
                    }
                }
            }
            return NONE;
        }

        void become(int place, int sign, int least) {
            signs[place] = sign;
            cost = least;
            gap = 0;
            checkLine();
        }

        /** Of a LINE that FITS alone. */
        int digitsOf(int field) {
            int start = FIELD_STARTS[field];
            int value = 0;
            for (int i = 0; i < FIELD_LENGTHS[field]; i++) {
                value = value * 10 + signs[start + i];
            }
            return value;
        }
    }

    /** The BATCHES and the PAPERS that were taken. */
    private static final class Ledger {
        int batches = 0;
        private final int[] told = new int[MOST_BATCHES];
        int papers = 0;
        final int[] batchOf = new int[MOST_PAPERS];
        final int[] amounts = new int[MOST_PAPERS];
        private final int[] banks = new int[MOST_PAPERS];
        private final int[] accounts = new int[MOST_PAPERS];
        private final int[] numbers = new int[MOST_PAPERS];

        int open(int sum) {
            told[batches] = sum;
            batches++;
            return batches - 1;
        }

        int take(int batch, int amount, Reading line) {
            batchOf[papers] = batch;
            amounts[papers] = amount;
            banks[papers] = line.digitsOf(BANK);
            accounts[papers] = line.digitsOf(ACCOUNT);
            numbers[papers] = line.digitsOf(NUMBER);
            papers++;
            return papers - 1;
        }

        int findTwin(Reading line) {
            int bank = line.digitsOf(BANK);
            int account = line.digitsOf(ACCOUNT);
            int number = line.digitsOf(NUMBER);
            for (int i = 0; i < papers; i++) {
                if (banks[i] == bank && accounts[i] == account && numbers[i] == number) {
                    return i;
                }
            }
            return NONE;
        }

        long sumOut(int batch) {
            long sum = 0;
            for (int i = 0; i < papers; i++) {
                if (batchOf[i] == batch) {
                    sum += amounts[i];
                }
            }
            return sum - told[batch];
        }
    }

    /** The SLIPS that explain what is OUT in one BATCH. */
    private static final class Slips {
        /** A PAPER has at most one SLIP of each of three kinds; one more is that a PAPER lacks. */
        private static final int MOST_SLIPS = 3 * MOST_PAPERS + 1;

        int size = 0;
        final int[] kinds = new int[MOST_SLIPS];
        final int[] papers = new int[MOST_SLIPS];
        final int[] amounts = new int[MOST_SLIPS];

        void explain(Ledger ledger, int batch) {
            size = 0;
            long out = ledger.sumOut(batch);
            if (out == 0) {
                return;
            }
            for (int i = 0; i < ledger.papers; i++) {
                if (ledger.batchOf[i] == batch) {
                    explainBy(i, ledger.amounts[i], out);
                }
            }
            if (out < 0 && -out <= MOST_AMOUNT) {
                note(LACKS, NONE, (int) -out);
            }
        }

        private void explainBy(int paper, int amount, long out) {
            long due = amount - out;
            if (due >= 0 && due <= MOST_AMOUNT) {
                if (differInOneDigit(amount, (int) due)) {
                    note(WRONG_DIGIT, paper, (int) due);
                }
                if (differByNeighbours(amount, (int) due)) {
                    note(SWAPPED_DIGITS, paper, (int) due);
                }
            }
            if (amount == out) {
                note(CAME_TWICE, paper, 0);
            }
        }

        private void note(int kind, int paper, int amount) {
            if (size >= MOST_SLIPS) {
                return;
            }
            kinds[size] = kind;
            papers[size] = paper;
            amounts[size] = amount;
            size++;
        }

        private static boolean differInOneDigit(int one, int two) {
            int restOfOne = one;
            int restOfTwo = two;
            int apart = 0;
            for (int i = 0; i < AMOUNT_DIGITS; i++) {
                if (restOfOne % 10 != restOfTwo % 10) {
                    apart++;
                }
                restOfOne = restOfOne / 10;
                restOfTwo = restOfTwo / 10;
            }
            return apart == 1;
        }

        /** Two neighbours that change places move a number by nine times what they differ, at their rank. */
        private static boolean differByNeighbours(int one, int two) {
            int rest = one;
            int rank = 1;
            for (int i = 0; i < AMOUNT_DIGITS - 1; i++) {
                int low = rest % 10;
                rest = rest / 10;
                int high = rest % 10;
                if (low != high && two - one == (low - high) * 9 * rank) {
                    return true;
                }
                rank = rank * 10;
            }
            return false;
        }
    }
}
