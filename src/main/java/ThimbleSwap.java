import java.util.Arrays;

/** A museum of thimbles and its collectors. */
public final class ThimbleSwap {
    private static final int MOST_THIMBLES = 36;
    private static final int MOST_COLLECTORS = 7;
    private static final int SETS = 8;
    private static final int NUMBERS = 6;
    private static final int HALLMARKS = 20;
    private static final int STATES = 10;
    private static final int MOST_LIKING = 5;
    private static final int MOST_GRUDGE = 9;
    private static final int MOST_SWAPS_AT_ONCE = 10;
    private static final int MOST_WEEKS_LENT = 30;
    private static final int MOST_WEEKS_PASSED = 60;
    private static final int WEEKS_THAT_WEAR = 4;
    private static final int WEEKS_BETWEEN_PARDONS = 5;
    private static final int WORTH_OF_HALLMARK = 3;
    private static final int COLLECTOR_ROWS = 7;
    private static final int THIMBLE_ROWS = 6;
    private static final int COUNT_ROWS = 7;
    private static final int AT_HOME = -1;
    private static final int NONE = -1;
    private static final long DIGEST_START = 761L;
    private static final long DIGEST_FACTOR = 31L;

    private int week;
    private int collectors;
    private int thimbles;
    private int swapsAgreed;
    private int swapsRefused;

    private final int[] setOf = new int[MOST_THIMBLES];
    private final int[] numberOf = new int[MOST_THIMBLES];
    private final int[] hallmarkOf = new int[MOST_THIMBLES];
    private final int[] stateOf = new int[MOST_THIMBLES];
    private final int[] ownerOf = new int[MOST_THIMBLES];
    private final int[] lentTill = new int[MOST_THIMBLES];
    private final int[] lentFor = new int[MOST_THIMBLES];

    private final int[][] likings = new int[MOST_COLLECTORS][SETS];
    private final int[][] grudges = new int[MOST_COLLECTORS][MOST_COLLECTORS];
    private final int[] swapsOf = new int[MOST_COLLECTORS];

    // The collection that was laid out last. It is kept so that no call has to make rows of its own.
    private final int[] greatestStates = new int[SETS * NUMBERS];
    private int hallmarksLaidOut;

    public ThimbleSwap() {
    }

    // ---- collectors and thimbles

    public int join() throws IllegalStateException {
        if (collectors >= MOST_COLLECTORS) {
            throw new IllegalStateException("there are 7 collectors");
        }
        int joined = collectors;
        Arrays.fill(likings[joined], 1);
        collectors++;
        return joined;
    }

    public int find(int collector, int set, int number, int hallmark, int state)
            throws IndexOutOfBoundsException, IllegalArgumentException, IllegalStateException {
        requireCollector(collector);
        if (!isBelow(set, SETS) || !isBelow(number, NUMBERS)
                || !isBelow(hallmark, HALLMARKS) || !isBelow(state, STATES)) {
            throw new IllegalArgumentException("no thimble is like this");
        }
        if (thimbles >= MOST_THIMBLES) {
            throw new IllegalStateException("there are 36 thimbles");
        }
        int found = thimbles;
        setOf[found] = set;
        numberOf[found] = number;
        hallmarkOf[found] = hallmark;
        stateOf[found] = state;
        ownerOf[found] = collector;
        lentTill[found] = AT_HOME;
        thimbles++;
        return found;
    }

    public int like(int collector, int set, int liking) throws IndexOutOfBoundsException, IllegalArgumentException {
        requireCollector(collector);
        requireSet(set);
        if (!isBelow(liking, MOST_LIKING + 1)) {
            throw new IllegalArgumentException("a liking is 0 to 5");
        }
        int before = likings[collector][set];
        likings[collector][set] = liking;
        return before;
    }

    public int collector(int collector, int what) throws IndexOutOfBoundsException {
        requireCollector(collector);
        requireRow(what, COLLECTOR_ROWS);
        switch (what) {
            case 0:
                return thimblesOf(collector);
            case 1:
                return thimblesLentBy(collector);
            case 2:
                return differentHallmarks(collector);
            case 3:
                return worthNow(collector);
            case 4:
                return wholeSets(collector);
            case 5:
                return allGrudgesOf(collector);
            default:
                return swapsOf[collector];
        }
    }

    public int grudge(int collector, int other) throws IndexOutOfBoundsException {
        requireCollector(collector);
        requireCollector(other);
        return grudges[collector][other];
    }

    public int thimble(int thimble, int what) throws IndexOutOfBoundsException {
        requireThimble(thimble);
        requireRow(what, THIMBLE_ROWS);
        switch (what) {
            case 0:
                return setOf[thimble];
            case 1:
                return numberOf[thimble];
            case 2:
                return hallmarkOf[thimble];
            case 3:
                return stateOf[thimble];
            case 4:
                return ownerOf[thimble];
            default:
                return lentTill[thimble];
        }
    }

    // ---- swaps

    public int gains(int thimble, int other) throws IndexOutOfBoundsException, IllegalArgumentException {
        requireThimble(thimble);
        requireThimble(other);
        requireTwoOwners(thimble, other);
        return gainOfOwner(thimble, other);
    }

    public int swap(int thimble, int other)
            throws IndexOutOfBoundsException, IllegalArgumentException, IllegalStateException {
        requireThimble(thimble);
        requireThimble(other);
        requireTwoOwners(thimble, other);
        requireAtHome(thimble);
        requireAtHome(other);
        int one = ownerOf[thimble];
        int two = ownerOf[other];
        boolean oneAgrees = isEnough(gainOfOwner(thimble, other), one, two);
        boolean twoAgrees = isEnough(gainOfOwner(other, thimble), two, one);
        if (oneAgrees && twoAgrees) {
            changeHands(thimble, other);
            return 0;
        }
        swapsRefused++;
        if (oneAgrees) {
            resent(one, two);
            return 2;
        }
        if (twoAgrees) {
            resent(two, one);
            return 1;
        }
        return 3;
    }

    public int best(int collector, int other) throws IndexOutOfBoundsException, IllegalArgumentException {
        requireCollector(collector);
        requireCollector(other);
        if (collector == other) {
            throw new IllegalArgumentException("a collector does not swap alone");
        }
        return bestSwapOf(collector, other);
    }

    public int ring(int first, int second, int third) throws IndexOutOfBoundsException, IllegalArgumentException {
        requireThimble(first);
        requireThimble(second);
        requireThimble(third);
        requireTwoOwners(first, second);
        requireTwoOwners(second, third);
        requireTwoOwners(third, first);
        return oneIfAbove0(gainOfOwner(first, second))
                + oneIfAbove0(gainOfOwner(second, third))
                + oneIfAbove0(gainOfOwner(third, first));
    }

    public int fair(int many) throws IllegalArgumentException {
        if (many < 1 || many > MOST_SWAPS_AT_ONCE) {
            throw new IllegalArgumentException("swaps are 1 to 10");
        }
        for (int made = 0; made < many; made++) {
            int found = bestSwapOfFirstPair();
            if (found == NONE) {
                return made;
            }
            changeHands(found / MOST_THIMBLES, found % MOST_THIMBLES);
        }
        return many;
    }

    // ---- the museum

    public int lend(int thimble, int weeks)
            throws IndexOutOfBoundsException, IllegalArgumentException, IllegalStateException {
        requireThimble(thimble);
        if (weeks < 1 || weeks > MOST_WEEKS_LENT) {
            throw new IllegalArgumentException("weeks are 1 to 30");
        }
        requireAtHome(thimble);
        lentTill[thimble] = week + weeks;
        lentFor[thimble] = weeks;
        return lentTill[thimble];
    }

    public int shows(int set) throws IndexOutOfBoundsException {
        requireSet(set);
        return Integer.bitCount(numbersShown(set));
    }

    public int lacks(int set) throws IndexOutOfBoundsException {
        requireSet(set);
        if (Integer.bitCount(numbersFound(set)) < NUMBERS) {
            return NONE;
        }
        return NUMBERS - Integer.bitCount(numbersShown(set));
    }

    public int finest(int set) throws IndexOutOfBoundsException {
        requireSet(set);
        int finest = NONE;
        int mostNumbers = 0;
        int mostStates = 0;
        for (int c = 0; c < collectors; c++) {
            layOutOwn(c);
            int numbers = numbersLaidOut(set);
            int states = statesLaidOut(set);
            if (numbers > mostNumbers || (numbers == mostNumbers && states > mostStates)) {
                finest = c;
                mostNumbers = numbers;
                mostStates = states;
            }
        }
        return finest;
    }

    public int pass(int weeks) throws IllegalArgumentException {
        if (weeks < 1 || weeks > MOST_WEEKS_PASSED) {
            throw new IllegalArgumentException("weeks are 1 to 60");
        }
        int cameHome = 0;
        for (int i = 0; i < weeks; i++) {
            cameHome += endWeek();
        }
        return cameHome;
    }

    public int count(int what) throws IndexOutOfBoundsException {
        requireRow(what, COUNT_ROWS);
        switch (what) {
            case 0:
                return week;
            case 1:
                return collectors;
            case 2:
                return thimbles;
            case 3:
                return thimblesLent();
            case 4:
                return swapsAgreed;
            case 5:
                return swapsRefused;
            default:
                return worthOfAll();
        }
    }

    public double mean() {
        if (thimbles == 0) {
            return 0.0;
        }
        return (double) worthOfAll() / (double) thimbles;
    }

    public long digest() {
        long d = DIGEST_START;
        for (int what = 0; what < COUNT_ROWS; what++) {
            d = d * DIGEST_FACTOR + count(what);
        }
        for (int c = 0; c < collectors; c++) {
            d = digestWithCollector(d, c);
        }
        for (int t = 0; t < thimbles; t++) {
            d = digestWithThimble(d, t);
        }
        return d;
    }

    private long digestWithCollector(long before, int c) {
        long d = before;
        for (int what = 0; what < COLLECTOR_ROWS; what++) {
            d = d * DIGEST_FACTOR + collector(c, what);
        }
        for (int set = 0; set < SETS; set++) {
            d = d * DIGEST_FACTOR + likings[c][set];
        }
        for (int other = 0; other < collectors; other++) {
            d = d * DIGEST_FACTOR + grudges[c][other];
        }
        return d;
    }

    private long digestWithThimble(long before, int t) {
        long d = before;
        for (int what = 0; what < THIMBLE_ROWS; what++) {
            d = d * DIGEST_FACTOR + thimble(t, what);
        }
        return d;
    }

    // ---- what the arguments must be

    private static boolean isBelow(int number, int bound) {
        return number >= 0 && number < bound;
    }

    private void requireCollector(int collector) {
        if (!isBelow(collector, collectors)) {
            throw new IndexOutOfBoundsException("no such collector");
        }
    }

    private void requireThimble(int thimble) {
        if (!isBelow(thimble, thimbles)) {
            throw new IndexOutOfBoundsException("no such thimble");
        }
    }

    private static void requireSet(int set) {
        if (!isBelow(set, SETS)) {
            throw new IndexOutOfBoundsException("a set is 0 to 7");
        }
    }

    private static void requireRow(int what, int rows) {
        if (!isBelow(what, rows)) {
            throw new IndexOutOfBoundsException("this is not told");
        }
    }

    private void requireTwoOwners(int thimble, int other) {
        if (ownerOf[thimble] == ownerOf[other]) {
            throw new IllegalArgumentException("both belong to the same collector");
        }
    }

    private void requireAtHome(int thimble) {
        if (isLent(thimble)) {
            throw new IllegalStateException("the thimble is lent");
        }
    }

    // ---- what a collection is worth

    private void layOutOwn(int collector) {
        layOut(collector, NONE, NONE);
    }

    /** Lays out what the collector has after giving one thimble and taking another (NONE for neither). */
    private void layOut(int collector, int given, int taken) {
        Arrays.fill(greatestStates, NONE);
        hallmarksLaidOut = 0;
        for (int t = 0; t < thimbles; t++) {
            if (t == taken || (t != given && ownerOf[t] == collector)) {
                int place = setOf[t] * NUMBERS + numberOf[t];
                greatestStates[place] = Math.max(greatestStates[place], stateOf[t]);
                hallmarksLaidOut |= 1 << hallmarkOf[t];
            }
        }
    }

    private int numbersLaidOut(int set) {
        int numbers = 0;
        for (int number = 0; number < NUMBERS; number++) {
            if (greatestStates[set * NUMBERS + number] != NONE) {
                numbers++;
            }
        }
        return numbers;
    }

    private int statesLaidOut(int set) {
        int states = 0;
        for (int number = 0; number < NUMBERS; number++) {
            states += Math.max(greatestStates[set * NUMBERS + number], 0);
        }
        return states;
    }

    private int worthLaidOut(int collector) {
        int worth = WORTH_OF_HALLMARK * Integer.bitCount(hallmarksLaidOut);
        for (int set = 0; set < SETS; set++) {
            int numbers = numbersLaidOut(set);
            worth += likings[collector][set] * 2 * numbers * numbers + statesLaidOut(set);
        }
        return worth;
    }

    private int worthNow(int collector) {
        layOutOwn(collector);
        return worthLaidOut(collector);
    }

    private int worthAfter(int collector, int given, int taken) {
        layOut(collector, given, taken);
        return worthLaidOut(collector);
    }

    private int worthOfAll() {
        int worth = 0;
        for (int c = 0; c < collectors; c++) {
            worth += worthNow(c);
        }
        return worth;
    }

    private int differentHallmarks(int collector) {
        layOutOwn(collector);
        return Integer.bitCount(hallmarksLaidOut);
    }

    private int wholeSets(int collector) {
        layOutOwn(collector);
        int whole = 0;
        for (int set = 0; set < SETS; set++) {
            if (numbersLaidOut(set) == NUMBERS) {
                whole++;
            }
        }
        return whole;
    }

    // ---- swaps between two

    private int gainOfOwner(int given, int taken) {
        int owner = ownerOf[given];
        return worthAfter(owner, given, taken) - worthNow(owner);
    }

    private boolean isEnough(int gain, int collector, int other) {
        return gain > 2 * grudges[collector][other];
    }

    private static int oneIfAbove0(int gain) {
        return gain > 0 ? 1 : 0;
    }

    private int bestSwapOf(int one, int two) {
        int worthOfOne = worthNow(one);
        int worthOfTwo = worthNow(two);
        int best = NONE;
        int mostGained = 0;
        for (int a = 0; a < thimbles; a++) {
            if (!isAtHomeWith(a, one)) {
                continue;
            }
            for (int b = 0; b < thimbles; b++) {
                if (!isAtHomeWith(b, two)) {
                    continue;
                }
                int gainOfOne = worthAfter(one, a, b) - worthOfOne;
                if (!isEnough(gainOfOne, one, two)) {
                    continue;
                }
                int gainOfTwo = worthAfter(two, b, a) - worthOfTwo;
                // Only more than before replaces a swap: of equal ones the least number came first.
                if (isEnough(gainOfTwo, two, one) && gainOfOne + gainOfTwo > mostGained) {
                    best = a * MOST_THIMBLES + b;
                    mostGained = gainOfOne + gainOfTwo;
                }
            }
        }
        return best;
    }

    private int bestSwapOfFirstPair() {
        for (int one = 0; one < collectors; one++) {
            for (int two = one + 1; two < collectors; two++) {
                int found = bestSwapOf(one, two);
                if (found != NONE) {
                    return found;
                }
            }
        }
        return NONE;
    }

    private void changeHands(int thimble, int other) {
        int one = ownerOf[thimble];
        int two = ownerOf[other];
        ownerOf[thimble] = two;
        ownerOf[other] = one;
        soften(one, two);
        soften(two, one);
        swapsOf[one]++;
        swapsOf[two]++;
        swapsAgreed++;
    }

    private void soften(int collector, int other) {
        grudges[collector][other] = Math.max(grudges[collector][other] - 1, 0);
    }

    private void resent(int collector, int other) {
        grudges[collector][other] = Math.min(grudges[collector][other] + 1, MOST_GRUDGE);
    }

    private int allGrudgesOf(int collector) {
        int sum = 0;
        for (int other = 0; other < collectors; other++) {
            sum += grudges[collector][other];
        }
        return sum;
    }

    // ---- what is whose, and where

    private boolean isLent(int thimble) {
        return lentTill[thimble] != AT_HOME;
    }

    private boolean isAtHomeWith(int thimble, int collector) {
        return ownerOf[thimble] == collector && !isLent(thimble);
    }

    private int thimblesOf(int collector) {
        int own = 0;
        for (int t = 0; t < thimbles; t++) {
            if (ownerOf[t] == collector) {
                own++;
            }
        }
        return own;
    }

    private int thimblesLentBy(int collector) {
        int lent = 0;
        for (int t = 0; t < thimbles; t++) {
            if (ownerOf[t] == collector && isLent(t)) {
                lent++;
            }
        }
        return lent;
    }

    private int thimblesLent() {
        int lent = 0;
        for (int t = 0; t < thimbles; t++) {
            if (isLent(t)) {
                lent++;
            }
        }
        return lent;
    }

    /** The numbers of the set that somebody has, a bit for each. */
    private int numbersFound(int set) {
        int numbers = 0;
        for (int t = 0; t < thimbles; t++) {
            if (setOf[t] == set) {
                numbers |= 1 << numberOf[t];
            }
        }
        return numbers;
    }

    /** The numbers of the set that are lent to the museum, a bit for each. */
    private int numbersShown(int set) {
        int numbers = 0;
        for (int t = 0; t < thimbles; t++) {
            if (setOf[t] == set && isLent(t)) {
                numbers |= 1 << numberOf[t];
            }
        }
        return numbers;
    }

    // ---- how a week goes

    private int endWeek() {
        int cameHome = 0;
        for (int t = 0; t < thimbles; t++) {
            if (isLent(t) && lentTill[t] <= week) {
                bringHome(t);
                cameHome++;
            }
        }
        if (week % WEEKS_BETWEEN_PARDONS == 0) {
            softenAll();
        }
        week++;
        return cameHome;
    }

    private void bringHome(int thimble) {
        lentTill[thimble] = AT_HOME;
        if (lentFor[thimble] >= WEEKS_THAT_WEAR) {
            stateOf[thimble] = Math.max(stateOf[thimble] - 1, 0);
        }
    }

    private void softenAll() {
        for (int c = 0; c < collectors; c++) {
            for (int other = 0; other < collectors; other++) {
                soften(c, other);
            }
        }
    }
}
