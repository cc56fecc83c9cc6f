/** Museums that several tests begin with. */
final class MuseumHelper {
    static final int MOST_COLLECTORS = 7;
    static final int MOST_THIMBLES = 36;

    private MuseumHelper() {
    }

    static ThimbleSwap museum(int collectors) {
        ThimbleSwap x = new ThimbleSwap();
        for (int i = 0; i < collectors; i++) {
            x.join();
        }
        return x;
    }

    /** Collector 0 wants thimble 1 (an own set's second number), collector 1 loses by it: swap(0, 1) answers 2. */
    static ThimbleSwap unequalPair() {
        ThimbleSwap x = museum(3);
        x.find(0, 0, 0, 0, 0);
        x.find(1, 1, 0, 1, 9);
        x.find(0, 1, 1, 2, 9);
        x.like(0, 1, 5);
        return x;
    }

    /** 0 and 1 hold a number of each other's set: swap(1, 3) gives both a second number. */
    static ThimbleSwap equalPair() {
        ThimbleSwap x = museum(2);
        x.find(0, 0, 0, 0, 5);
        x.find(0, 1, 1, 1, 5);
        x.find(1, 1, 0, 2, 5);
        x.find(1, 0, 1, 3, 5);
        return x;
    }

    /** Like equalPair, and collector 0 comes to hold a grudge against 1 by swaps of thimble 4 for 5. */
    static ThimbleSwap grudgingPair(int grudge) {
        ThimbleSwap x = equalPair();
        x.find(0, 2, 0, 5, 0);
        x.find(1, 3, 0, 4, 9);
        x.like(0, 3, 5);
        x.like(1, 3, 5);
        for (int i = 0; i < grudge; i++) {
            CheckHelper.due("swap that 1 refuses", 2, () -> x.swap(4, 5));
        }
        x.like(0, 3, 0);
        return x;
    }

    /**
     * Like unequalPair, with a grudge of 0 against 1, and two thimbles more: 3 of collector 0 and 4 of collector 1.
     * By swap(3, 4) collector 0 gains as much as is told (0 to 19), and collector 1 gains 1 to 10.
     */
    static ThimbleSwap probe(int grudge, int gain) {
        ThimbleSwap x = unequalPair();
        holdGrudge(x, grudge);
        int state = gain < 10 ? gain : gain - 10;
        x.like(0, 5, 0);
        x.like(1, 5, 5);
        x.like(0, 6, gain < 10 ? 0 : 5);
        x.like(1, 6, 0);
        x.find(0, 5, 0, 9, 0);
        x.find(1, 6, 0, 9, state);
        CheckHelper.due("probe's gain of 0", gain, () -> x.gains(3, 4));
        CheckHelper.due("probe's gain of 1", 10 - state, () -> x.gains(4, 3));
        return x;
    }

    /** In an unequalPair: 0 asks, and 1 refuses, as often as is told. */
    static void holdGrudge(ThimbleSwap x, int grudge) {
        for (int i = 0; i < grudge; i++) {
            CheckHelper.due("swap that 1 refuses", 2, () -> x.swap(0, 1));
        }
        CheckHelper.due("grudge of 0 against 1", grudge, () -> x.grudge(0, 1));
    }

    /** Collector 0 has all of the sets 0 to 2 and likes 3 to 5, collector 1 the other way round: 18 swaps in all. */
    static ThimbleSwap crossedPair(int collectors) {
        ThimbleSwap x = museum(collectors);
        for (int t = 0; t < MOST_THIMBLES; t++) {
            x.find(t / 18, t / 6, t % 6, 0, 0);
        }
        for (int set = 0; set < 6; set++) {
            x.like(0, set, set < 3 ? 0 : 5);
            x.like(1, set, set < 3 ? 5 : 0);
        }
        return x;
    }

    /** 7 collectors and 36 thimbles of all kinds, thimble t of collector t % 7. */
    static ThimbleSwap full() {
        ThimbleSwap x = museum(MOST_COLLECTORS);
        for (int t = 0; t < MOST_THIMBLES; t++) {
            x.find(t % 7, t % 8, t % 6, t % 20, t % 10);
        }
        return x;
    }
}
