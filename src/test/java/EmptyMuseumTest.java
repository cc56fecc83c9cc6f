/** A museum without collectors, without thimbles, or with too few for a swap: what each method answers. */
public final class EmptyMuseumTest {
    private EmptyMuseumTest() {
    }

    public static void main(String[] args) {
        CheckHelper.runAll(EmptyMuseumTest.class);
    }

    // ---- without collectors

    private static void newCountsAreAll0() {
        ThimbleSwap x = new ThimbleSwap();
        for (int what = 0; what <= 6; what++) {
            int row = what;
            CheckHelper.due("count(" + row + ")", 0, () -> x.count(row));
        }
    }

    private static void newHasNoCollector0() {
        ThimbleSwap x = new ThimbleSwap();
        CheckHelper.dueIndex("find", x, () -> x.find(0, 0, 0, 0, 0));
        CheckHelper.dueIndex("like", x, () -> x.like(0, 0, 0));
        CheckHelper.dueIndex("collector", x, () -> x.collector(0, 0));
        CheckHelper.dueIndex("grudge", x, () -> x.grudge(0, 0));
        CheckHelper.dueIndex("best", x, () -> x.best(0, 0));
        CheckHelper.dueIndex("best", x, () -> x.best(0, 1));
    }

    private static void newHasNoThimble0() {
        ThimbleSwap x = new ThimbleSwap();
        dueNoThimble(x, 0);
    }

    private static void dueNoThimble(ThimbleSwap x, int t) {
        CheckHelper.dueIndex("thimble", x, () -> x.thimble(t, 0));
        CheckHelper.dueIndex("gains", x, () -> x.gains(t, t));
        CheckHelper.dueIndex("swap", x, () -> x.swap(t, t));
        CheckHelper.dueIndex("ring", x, () -> x.ring(t, t, t));
        CheckHelper.dueIndex("lend", x, () -> x.lend(t, 1));
    }

    private static void newShowsNothing() {
        ThimbleSwap x = new ThimbleSwap();
        for (int set = 0; set < 8; set++) {
            int s = set;
            CheckHelper.due("shows", 0, () -> x.shows(s));
            CheckHelper.due("lacks", -1, () -> x.lacks(s));
            CheckHelper.due("finest", -1, () -> x.finest(s));
        }
    }

    private static void newHasNothingToSwap() {
        ThimbleSwap x = new ThimbleSwap();
        CheckHelper.due("fair(1)", 0, () -> x.fair(1));
        CheckHelper.due("fair(10)", 0, () -> x.fair(10));
        CheckHelper.dueArgument("fair(0)", x, () -> x.fair(0));
        CheckHelper.dueArgument("fair(11)", x, () -> x.fair(11));
    }

    private static void newLetsWeeksGoBy() {
        ThimbleSwap x = new ThimbleSwap();
        CheckHelper.due("pass(1)", 0, () -> x.pass(1));
        CheckHelper.due("pass(60)", 0, () -> x.pass(60));
        CheckHelper.due("the week", 61, () -> x.count(0));
        CheckHelper.dueArgument("pass(0)", x, () -> x.pass(0));
    }

    private static void newMeanIs0() {
        CheckHelper.dueDouble("mean", 0.0, new ThimbleSwap().mean());
    }

    private static void newDigest() {
        CheckHelper.due("digest", 761L * 31 * 31 * 31 * 31 * 31 * 31 * 31, () -> new ThimbleSwap().digest());
    }

    private static void newOnesAreApart() {
        ThimbleSwap busy = MuseumHelper.full();
        busy.lend(0, 5);
        busy.pass(3);
        ThimbleSwap x = new ThimbleSwap();
        long before = busy.digest();
        CheckHelper.due("digest of a new one", new ThimbleSwap().digest(), x::digest);
        x.join();
        x.like(0, 0, 5);
        CheckHelper.due("digest of the busy one", before, busy::digest);
    }

    // ---- with collectors, and without thimbles

    private static void collectorsWithoutThimbles() {
        ThimbleSwap x = MuseumHelper.museum(7);
        for (int c = 0; c < 7; c++) {
            for (int what = 0; what <= 6; what++) {
                int one = c;
                int row = what;
                CheckHelper.due("collector(" + one + ", " + row + ")", 0, () -> x.collector(one, row));
            }
        }
        dueNoThimble(x, 0);
        CheckHelper.due("worth of all", 0, () -> x.count(6));
    }

    private static void noSwapsWithoutThimbles() {
        ThimbleSwap x = MuseumHelper.museum(7);
        for (int c = 0; c < 7; c++) {
            for (int other = 0; other < 7; other++) {
                int one = c;
                int two = other;
                if (one != two) {
                    CheckHelper.due("best", -1, () -> x.best(one, two));
                }
            }
        }
        CheckHelper.due("fair(10)", 0, () -> x.fair(10));
        CheckHelper.due("swaps", 0, () -> x.count(4) + x.count(5));
    }

    private static void showsNothingWithoutThimbles() {
        ThimbleSwap x = MuseumHelper.museum(7);
        CheckHelper.due("shows", 0, () -> x.shows(0));
        CheckHelper.due("lacks", -1, () -> x.lacks(0));
        CheckHelper.due("finest", -1, () -> x.finest(0));
        CheckHelper.due("pass", 0, () -> x.pass(60));
        CheckHelper.dueDouble("mean", 0.0, x.mean());
    }

    // ---- with one collector, or with thimbles of one alone

    private static void oneCollectorAlone() {
        ThimbleSwap x = MuseumHelper.museum(1);
        x.find(0, 0, 0, 0, 0);
        x.find(0, 1, 0, 0, 0);
        CheckHelper.due("fair", 0, () -> x.fair(10));
        CheckHelper.dueArgument("best", x, () -> x.best(0, 0));
        CheckHelper.dueIndex("best with nobody", x, () -> x.best(0, 1));
        CheckHelper.dueArgument("gains", x, () -> x.gains(0, 1));
        CheckHelper.dueArgument("swap", x, () -> x.swap(0, 1));
        CheckHelper.dueArgument("ring", x, () -> x.ring(0, 1, 0));
        CheckHelper.due("grudge against oneself", 0, () -> x.grudge(0, 0));
        CheckHelper.due("finest", 0, () -> x.finest(1));
    }

    private static void allThimblesOfOneOfTwo() {
        ThimbleSwap x = MuseumHelper.museum(2);
        for (int t = 0; t < 36; t++) {
            x.find(1, t / 6, t % 6, 0, 9);
        }
        CheckHelper.due("best", -1, () -> x.best(0, 1));
        CheckHelper.due("best, the other way round", -1, () -> x.best(1, 0));
        CheckHelper.due("fair", 0, () -> x.fair(10));
        CheckHelper.due("thimbles of 0", 0, () -> x.collector(0, 0));
        CheckHelper.due("worth of 0", 0, () -> x.collector(0, 3));
        CheckHelper.due("thimbles of 1", 36, () -> x.collector(1, 0));
        CheckHelper.due("finest", 1, () -> x.finest(0));
    }

    private static void allThimblesAreLent() {
        ThimbleSwap x = MuseumHelper.crossedPair(2);
        for (int t = 0; t < 36; t++) {
            x.lend(t, 2);
        }
        CheckHelper.due("best", -1, () -> x.best(0, 1));
        CheckHelper.due("fair", 0, () -> x.fair(10));
        CheckHelper.due("those that are lent", 36, () -> x.count(3));
        CheckHelper.due("lent ones of 0", 18, () -> x.collector(0, 1));
        CheckHelper.due("home", 36, () -> x.pass(3));
        CheckHelper.due("best now", 18, () -> x.best(0, 1));
        CheckHelper.due("fair now", 10, () -> x.fair(10));
    }
}
