/** Each promise by itself: ordinary calls, the edges that the document names, and wrong arguments. */
public final class PromisesTest {
    private static final int[] NOT_COLLECTORS = {-1, 7, Integer.MIN_VALUE, Integer.MAX_VALUE};
    private static final int[] NOT_THIMBLES = {-1, 36, Integer.MIN_VALUE, Integer.MAX_VALUE};
    private static final int[] NOT_SETS = {-1, 8, Integer.MIN_VALUE, Integer.MAX_VALUE};

    private PromisesTest() {
    }

    public static void main(String[] args) {
        CheckHelper.runAll(PromisesTest.class);
    }

    private static void promise1NewObject() {
        ThimbleSwap x = new ThimbleSwap();
        for (int what = 0; what <= 6; what++) {
            int row = what;
            CheckHelper.due("new: count(" + row + ")", 0, () -> x.count(row));
        }
        CheckHelper.dueDouble("new: mean()", 0.0, x.mean());
        long seven0 = 761L * 31 * 31 * 31 * 31 * 31 * 31 * 31;
        CheckHelper.due("new: digest()", seven0, x::digest);
        ThimbleSwap other = MuseumHelper.museum(2);
        CheckHelper.due("objects are apart: count(1)", 0, () -> x.count(1));
        CheckHelper.due("objects are apart: count(1)", 2, () -> other.count(1));
    }

    private static void promise2Join() {
        ThimbleSwap x = new ThimbleSwap();
        for (int i = 0; i < 7; i++) {
            int number = i;
            CheckHelper.due("join " + number, number, x::join);
            CheckHelper.due("a new one has no thimbles", 0, () -> x.collector(number, 0));
            CheckHelper.due("a new one has no grudges", 0, () -> x.collector(number, 5));
            for (int set = 0; set < 8; set++) {
                int s = set;
                CheckHelper.due("a new one's liking", 1, () -> x.like(number, s, 1));
            }
        }
        CheckHelper.dueState("join with 7", x, x::join);
        CheckHelper.due("count(1)", 7, () -> x.count(1));
    }

    private static void promise3Find() {
        ThimbleSwap x = MuseumHelper.museum(3);
        for (int c : new int[] {-1, 3, 6, 7, Integer.MIN_VALUE, Integer.MAX_VALUE}) {
            CheckHelper.dueIndex("find for " + c, x, () -> x.find(c, 0, 0, 0, 0));
            CheckHelper.dueIndex("find for " + c + ", wrong set", x, () -> x.find(c, 8, 0, 0, 0));
        }
        for (int bad : new int[] {-1, Integer.MIN_VALUE, Integer.MAX_VALUE}) {
            CheckHelper.dueArgument("find set " + bad, x, () -> x.find(0, bad, 0, 0, 0));
            CheckHelper.dueArgument("find number " + bad, x, () -> x.find(0, 0, bad, 0, 0));
            CheckHelper.dueArgument("find hallmark " + bad, x, () -> x.find(0, 0, 0, bad, 0));
            CheckHelper.dueArgument("find state " + bad, x, () -> x.find(0, 0, 0, 0, bad));
        }
        CheckHelper.dueArgument("find set 8", x, () -> x.find(0, 8, 0, 0, 0));
        CheckHelper.dueArgument("find number 6", x, () -> x.find(0, 0, 6, 0, 0));
        CheckHelper.dueArgument("find hallmark 20", x, () -> x.find(0, 0, 0, 20, 0));
        CheckHelper.dueArgument("find state 10", x, () -> x.find(0, 0, 0, 0, 10));
        for (int i = 0; i < 36; i++) {
            int number = i;
            CheckHelper.due("find " + i, i, () -> x.find(number % 3, number % 8, number % 6, number % 20, number % 10));
        }
        CheckHelper.dueState("find with 36", x, () -> x.find(0, 0, 0, 0, 0));
        CheckHelper.dueArgument("find with 36, wrong state", x, () -> x.find(0, 0, 0, 0, 10));
        CheckHelper.dueIndex("find with 36, wrong collector", x, () -> x.find(3, 0, 0, 0, 10));
        CheckHelper.due("count(2)", 36, () -> x.count(2));
    }

    private static void promise3FindsWhatItIsTold() {
        ThimbleSwap x = MuseumHelper.museum(2);
        x.find(1, 7, 5, 19, 9);
        x.find(0, 0, 0, 0, 0);
        dueRow(x, 0, 7, 5, 19, 9, 1, -1);
        dueRow(x, 1, 0, 0, 0, 0, 0, -1);
    }

    private static void dueRow(ThimbleSwap x, int thimble, int... want) {
        for (int what = 0; what < want.length; what++) {
            int row = what;
            CheckHelper.due("thimble(" + thimble + ", " + row + ")", want[row], () -> x.thimble(thimble, row));
        }
    }

    private static void promise4Like() {
        ThimbleSwap x = MuseumHelper.museum(2);
        CheckHelper.due("like", 1, () -> x.like(0, 7, 5));
        CheckHelper.due("like", 5, () -> x.like(0, 7, 0));
        CheckHelper.due("like", 0, () -> x.like(0, 7, 3));
        CheckHelper.due("like of another set", 1, () -> x.like(0, 6, 2));
        CheckHelper.due("like of another collector", 1, () -> x.like(1, 7, 4));
        for (int c : new int[] {-1, 2, 7, Integer.MIN_VALUE, Integer.MAX_VALUE}) {
            CheckHelper.dueIndex("like of " + c, x, () -> x.like(c, 0, 0));
            CheckHelper.dueIndex("like of " + c + ", wrong liking", x, () -> x.like(c, 0, 6));
        }
        for (int set : NOT_SETS) {
            CheckHelper.dueIndex("like set " + set, x, () -> x.like(0, set, 0));
            CheckHelper.dueIndex("like set " + set + ", wrong liking", x, () -> x.like(0, set, -1));
        }
        for (int liking : new int[] {-1, 6, Integer.MIN_VALUE, Integer.MAX_VALUE}) {
            CheckHelper.dueArgument("liking " + liking, x, () -> x.like(0, 0, liking));
        }
    }

    private static void dueCollector(ThimbleSwap x, int collector, int... want) {
        for (int what = 0; what < want.length; what++) {
            int row = what;
            CheckHelper.due("collector(" + collector + ", " + row + ")", want[row], () -> x.collector(collector, row));
        }
    }

    private static void promise5Collector() {
        ThimbleSwap x = MuseumHelper.museum(2);
        for (int number = 0; number < 6; number++) {
            x.find(0, 2, number, number < 3 ? 0 : 19, number);
        }
        x.find(0, 3, 0, 7, 9);
        x.find(1, 3, 1, 8, 4);
        x.find(1, 3, 2, 8, 0);
        // 2 * 36 + 15 of the whole set, 2 + 9 of the other one, 3 hallmarks
        dueCollector(x, 0, 7, 0, 3, 72 + 15 + 11 + 9, 1, 0, 0);
        dueCollector(x, 1, 2, 0, 1, 8 + 4 + 3, 0, 0, 0);
        x.like(0, 2, 5);
        x.like(0, 3, 0);
        x.lend(0, 4);
        x.lend(6, 4);
        dueCollector(x, 0, 7, 2, 3, 360 + 15 + 9 + 9, 1, 0, 0);
        for (int c : new int[] {-1, 2, 7, Integer.MIN_VALUE, Integer.MAX_VALUE}) {
            CheckHelper.dueIndex("collector " + c, x, () -> x.collector(c, 0));
        }
        for (int what : new int[] {-1, 7, Integer.MIN_VALUE, Integer.MAX_VALUE}) {
            CheckHelper.dueIndex("collector what " + what, x, () -> x.collector(0, what));
        }
    }

    private static void promise5WorthOfDuplicates() {
        ThimbleSwap x = MuseumHelper.museum(1);
        x.find(0, 4, 3, 5, 6);
        CheckHelper.due("worth of one", 2 + 6 + 3, () -> x.collector(0, 3));
        x.find(0, 4, 3, 5, 2);
        CheckHelper.due("worth with a worse one", 2 + 6 + 3, () -> x.collector(0, 3));
        x.find(0, 4, 3, 6, 9);
        CheckHelper.due("worth with a better one", 2 + 9 + 6, () -> x.collector(0, 3));
        x.find(0, 4, 2, 6, 0);
        CheckHelper.due("worth with another number", 8 + 9 + 6, () -> x.collector(0, 3));
        x.find(0, 5, 2, 6, 0);
        CheckHelper.due("worth with another set", 8 + 9 + 6 + 2, () -> x.collector(0, 3));
        CheckHelper.due("sets that are whole", 0, () -> x.collector(0, 4));
    }

    private static void promise6Grudge() {
        ThimbleSwap x = MuseumHelper.unequalPair();
        CheckHelper.due("grudge at first", 0, () -> x.grudge(0, 1));
        CheckHelper.due("swap", 2, () -> x.swap(0, 1));
        CheckHelper.due("grudge of the one", 1, () -> x.grudge(0, 1));
        CheckHelper.due("grudge of the other one", 0, () -> x.grudge(1, 0));
        CheckHelper.due("grudge against a third", 0, () -> x.grudge(0, 2));
        CheckHelper.due("grudge against oneself", 0, () -> x.grudge(0, 0));
        for (int c : new int[] {-1, 3, 7, Integer.MIN_VALUE, Integer.MAX_VALUE}) {
            CheckHelper.dueIndex("grudge of " + c, x, () -> x.grudge(c, 0));
            CheckHelper.dueIndex("grudge against " + c, x, () -> x.grudge(0, c));
            CheckHelper.dueIndex("grudge of and against " + c, x, () -> x.grudge(c, c));
        }
    }

    private static void promise7Thimble() {
        ThimbleSwap x = MuseumHelper.museum(2);
        x.find(0, 1, 2, 3, 4);
        x.pass(3);
        x.lend(0, 30);
        dueRow(x, 0, 1, 2, 3, 4, 0, 33);
        for (int t : new int[] {-1, 1, 35, 36, Integer.MIN_VALUE, Integer.MAX_VALUE}) {
            CheckHelper.dueIndex("thimble " + t, x, () -> x.thimble(t, 0));
        }
        for (int what : new int[] {-1, 6, Integer.MIN_VALUE, Integer.MAX_VALUE}) {
            CheckHelper.dueIndex("thimble what " + what, x, () -> x.thimble(0, what));
        }
    }

    private static void promise8Gains() {
        ThimbleSwap x = MuseumHelper.unequalPair();
        long before = x.digest();
        // 0 gives 2 + 0 and a hallmark, and gets a second number of a set that is liked 5, state 9, a hallmark
        CheckHelper.due("gains(0, 1)", 10 * 4 + 18 + 6 - (10 + 9 + 2 + 6), () -> x.gains(0, 1));
        CheckHelper.due("gains(1, 0)", -9, () -> x.gains(1, 0));
        CheckHelper.due("nothing is changed", before, x::digest);
        x.lend(0, 3);
        x.lend(1, 3);
        CheckHelper.due("gains of lent ones", 37, () -> x.gains(0, 1));
        CheckHelper.dueArgument("gains of the same one", x, () -> x.gains(0, 0));
        CheckHelper.dueArgument("gains of one collector", x, () -> x.gains(0, 2));
        for (int t : new int[] {-1, 3, 36, Integer.MIN_VALUE, Integer.MAX_VALUE}) {
            CheckHelper.dueIndex("gains of " + t, x, () -> x.gains(t, 0));
            CheckHelper.dueIndex("gains for " + t, x, () -> x.gains(0, t));
            CheckHelper.dueIndex("gains of and for " + t, x, () -> x.gains(t, t));
        }
    }

    private static void promise9SwapAgreed() {
        ThimbleSwap x = MuseumHelper.equalPair();
        CheckHelper.due("gains(1, 3)", 4, () -> x.gains(1, 3));
        CheckHelper.due("gains(3, 1)", 4, () -> x.gains(3, 1));
        CheckHelper.due("swap", 0, () -> x.swap(1, 3));
        CheckHelper.due("owner of 1", 1, () -> x.thimble(1, 4));
        CheckHelper.due("owner of 3", 0, () -> x.thimble(3, 4));
        CheckHelper.due("owner of 0", 0, () -> x.thimble(0, 4));
        CheckHelper.due("swaps of 0", 1, () -> x.collector(0, 6));
        CheckHelper.due("swaps of 1", 1, () -> x.collector(1, 6));
        CheckHelper.due("swaps agreed to", 1, () -> x.count(4));
        CheckHelper.due("swaps refused", 0, () -> x.count(5));
        CheckHelper.due("back again", 3, () -> x.swap(1, 3));
        CheckHelper.due("no grudge if neither gains", 0, () -> x.grudge(0, 1) + x.grudge(1, 0));
        CheckHelper.due("swaps refused", 1, () -> x.count(5));
        // A gain of 0 is not more than a grudge of 0.
        ThimbleSwap same = MuseumHelper.museum(2);
        same.find(0, 0, 0, 0, 5);
        same.find(1, 0, 0, 0, 5);
        CheckHelper.due("gain of 0", 0, () -> same.gains(0, 1));
        CheckHelper.due("swap with a gain of 0", 3, () -> same.swap(0, 1));
    }

    private static void promise9SwapRefused() {
        ThimbleSwap x = MuseumHelper.unequalPair();
        for (int i = 1; i <= 9; i++) {
            CheckHelper.due("swap", 2, () -> x.swap(0, 1));
            CheckHelper.due("grudge grows", i, () -> x.grudge(0, 1));
        }
        CheckHelper.due("swap", 2, () -> x.swap(0, 1));
        CheckHelper.due("grudge is 9 at most", 9, () -> x.grudge(0, 1));
        CheckHelper.due("the other way round", 1, () -> x.swap(1, 0));
        CheckHelper.due("grudge is 9 at most", 9, () -> x.grudge(0, 1));
        CheckHelper.due("grudge of the other one", 0, () -> x.grudge(1, 0));
        CheckHelper.due("all grudges", 9, () -> x.collector(0, 5));
        CheckHelper.due("owner of 0", 0, () -> x.thimble(0, 4));
        CheckHelper.due("swaps refused", 11, () -> x.count(5));
        CheckHelper.due("swaps agreed to", 0, () -> x.count(4) + x.collector(0, 6) + x.collector(1, 6));
        ThimbleSwap y = MuseumHelper.unequalPair();
        CheckHelper.due("first one does not gain", 1, () -> y.swap(1, 0));
        CheckHelper.due("the other one resents it", 1, () -> y.grudge(0, 1));
    }

    private static void promise9GrudgesWeigh() {
        ThimbleSwap one = MuseumHelper.grudgingPair(1);
        CheckHelper.due("gain of 4 against a grudge of 1", 0, () -> one.swap(1, 3));
        CheckHelper.due("grudge is less", 0, () -> one.grudge(0, 1));
        CheckHelper.due("grudge is 0 at least", 0, () -> one.grudge(1, 0));
        ThimbleSwap two = MuseumHelper.grudgingPair(2);
        CheckHelper.due("gain of 4", 4, () -> two.gains(1, 3));
        CheckHelper.due("gain of 4 against a grudge of 2", 1, () -> two.swap(1, 3));
        CheckHelper.due("the one who would have swapped", 1, () -> two.grudge(1, 0));
        CheckHelper.due("the grudge that weighed", 2, () -> two.grudge(0, 1));
        CheckHelper.due("gain of 4 against grudges of 2 and 1", 1, () -> two.swap(1, 3));
        CheckHelper.due("gain of 4 against grudges of 2 and 2", 3, () -> two.swap(1, 3));
        CheckHelper.due("no grudge grows", 2, () -> two.grudge(1, 0));
        ThimbleSwap twice = MuseumHelper.grudgingPair(2);
        twice.find(1, 0, 1, 6, 6);
        CheckHelper.due("gain of 5", 5, () -> twice.gains(1, 6));
        CheckHelper.due("gain of 5 against a grudge of 2", 0, () -> twice.swap(1, 6));
        CheckHelper.due("grudge is less", 1, () -> twice.grudge(0, 1));
        ThimbleSwap both = MuseumHelper.grudgingPair(1);
        both.like(0, 2, 5);
        both.like(1, 2, 5);
        both.like(1, 3, 0);
        CheckHelper.due("swap that 0 refuses", 1, () -> both.swap(4, 5));
        CheckHelper.due("grudges of both", 2, () -> both.grudge(0, 1) + both.grudge(1, 0));
        CheckHelper.due("gain of 4 against grudges of 1", 0, () -> both.swap(1, 3));
        CheckHelper.due("both are less", 0, () -> both.grudge(0, 1) + both.grudge(1, 0));
    }

    private static void promise9WrongSwaps() {
        ThimbleSwap x = MuseumHelper.equalPair();
        for (int t : new int[] {-1, 4, 36, Integer.MIN_VALUE, Integer.MAX_VALUE}) {
            CheckHelper.dueIndex("swap of " + t, x, () -> x.swap(t, 0));
            CheckHelper.dueIndex("swap for " + t, x, () -> x.swap(0, t));
            CheckHelper.dueIndex("swap of and for " + t, x, () -> x.swap(t, t));
        }
        CheckHelper.dueArgument("swap of the same one", x, () -> x.swap(0, 0));
        CheckHelper.dueArgument("swap of one collector", x, () -> x.swap(0, 1));
        x.lend(1, 2);
        CheckHelper.dueState("swap of a lent one", x, () -> x.swap(1, 3));
        CheckHelper.dueState("swap for a lent one", x, () -> x.swap(3, 1));
        CheckHelper.dueArgument("lent, and of one collector", x, () -> x.swap(0, 1));
        CheckHelper.dueIndex("lent, and no such thimble", x, () -> x.swap(1, 4));
        x.pass(3);
        CheckHelper.due("home again", 0, () -> x.swap(1, 3));
    }

    private static void promise10Best() {
        ThimbleSwap x = MuseumHelper.equalPair();
        long before = x.digest();
        CheckHelper.due("best", 36 * 0 + 2, () -> x.best(0, 1));
        CheckHelper.due("best, other way round", 36 * 2 + 0, () -> x.best(1, 0));
        x.like(0, 0, 5);
        x.like(1, 1, 5);
        CheckHelper.due("best with likings", 36 * 1 + 3, () -> x.best(0, 1));
        CheckHelper.due("best with likings, other way round", 36 * 3 + 1, () -> x.best(1, 0));
        x.like(0, 0, 1);
        x.like(1, 1, 1);
        CheckHelper.due("nothing is changed", before, x::digest);
        for (int c : new int[] {-1, 2, 7, Integer.MIN_VALUE, Integer.MAX_VALUE}) {
            CheckHelper.dueIndex("best of " + c, x, () -> x.best(c, 0));
            CheckHelper.dueIndex("best with " + c, x, () -> x.best(0, c));
            CheckHelper.dueIndex("best of and with " + c, x, () -> x.best(c, c));
        }
        CheckHelper.dueArgument("best of the same", x, () -> x.best(1, 1));
        ThimbleSwap empty = MuseumHelper.museum(2);
        CheckHelper.due("best without thimbles", -1, () -> empty.best(0, 1));
        CheckHelper.due("best that one loses by", -1, () -> MuseumHelper.unequalPair().best(0, 1));
    }

    private static void promise10BestOfEqualOnes() {
        ThimbleSwap x = MuseumHelper.museum(2);
        x.find(1, 1, 1, 0, 5);
        x.find(1, 1, 1, 0, 5);
        x.find(0, 1, 0, 0, 5);
        x.find(0, 0, 0, 0, 5);
        x.find(0, 0, 0, 0, 5);
        x.find(1, 0, 1, 0, 5);
        // Each has a double thing that the other one lacks: 0 or 1 for 3 or 4 are all alike.
        CheckHelper.due("gains(3, 0)", x.gains(4, 1), () -> x.gains(3, 0));
        CheckHelper.due("best of equal ones", 36 * 3 + 0, () -> x.best(0, 1));
        CheckHelper.due("best of equal ones, other way round", 36 * 0 + 3, () -> x.best(1, 0));
        x.lend(0, 5);
        CheckHelper.due("best without the first", 36 * 3 + 1, () -> x.best(0, 1));
        x.lend(3, 5);
        CheckHelper.due("best without the first two", 36 * 4 + 1, () -> x.best(0, 1));
    }

    private static void promise10BestMindsGrudgesAndLending() {
        CheckHelper.due("best with a grudge of 1", 36 * 0 + 2, () -> MuseumHelper.grudgingPair(1).best(0, 1));
        ThimbleSwap x = MuseumHelper.grudgingPair(2);
        CheckHelper.due("best with a grudge of 2", -1, () -> x.best(0, 1));
        CheckHelper.due("best with a grudge of 2, other way round", -1, () -> x.best(1, 0));
        CheckHelper.due("fair with a grudge of 2", 0, () -> x.fair(10));
        x.pass(1);
        CheckHelper.due("best with a grudge of 1 again", 36 * 0 + 2, () -> x.best(0, 1));
        x.lend(0, 9);
        CheckHelper.due("best when the one's is lent", 36 * 1 + 3, () -> x.best(0, 1));
        x.lend(3, 9);
        CheckHelper.due("best when the other's is lent too", -1, () -> x.best(0, 1));
        CheckHelper.due("fair when they are lent", 0, () -> x.fair(10));
    }

    private static ThimbleSwap threeInARing() {
        ThimbleSwap x = MuseumHelper.museum(4);
        x.find(0, 0, 0, 0, 1);
        x.find(1, 1, 0, 0, 1);
        x.find(2, 2, 0, 0, 1);
        x.like(0, 1, 2);
        x.like(1, 2, 2);
        x.like(2, 0, 2);
        x.find(2, 6, 0, 0, 1);
        return x;
    }

    private static void promise11Ring() {
        ThimbleSwap x = threeInARing();
        long before = x.digest();
        CheckHelper.due("ring", 3, () -> x.ring(0, 1, 2));
        CheckHelper.due("ring", 3, () -> x.ring(1, 2, 0));
        CheckHelper.due("ring in the other direction", 0, () -> x.ring(2, 1, 0));
        CheckHelper.due("ring in the other direction", 0, () -> x.ring(0, 2, 1));
        x.like(2, 0, 1);
        CheckHelper.due("ring that one does not gain by", 2, () -> x.ring(0, 1, 2));
        x.like(1, 2, 0);
        CheckHelper.due("ring that one gains by", 1, () -> x.ring(0, 1, 2));
        x.like(1, 2, 2);
        x.like(2, 0, 2);
        CheckHelper.due("nothing is changed", before, x::digest);
        x.lend(0, 9);
        x.lend(1, 9);
        CheckHelper.due("ring of lent ones", 3, () -> x.ring(0, 1, 2));
        CheckHelper.dueArgument("ring of one", x, () -> x.ring(0, 0, 0));
        CheckHelper.dueArgument("ring of two", x, () -> x.ring(0, 0, 1));
        CheckHelper.dueArgument("ring of two", x, () -> x.ring(2, 0, 3));
        CheckHelper.dueArgument("ring of two", x, () -> x.ring(0, 2, 3));
        CheckHelper.dueArgument("ring of two", x, () -> x.ring(3, 2, 0));
        for (int t : new int[] {-1, 4, 36, Integer.MIN_VALUE, Integer.MAX_VALUE}) {
            CheckHelper.dueIndex("ring with first " + t, x, () -> x.ring(t, 1, 2));
            CheckHelper.dueIndex("ring with second " + t, x, () -> x.ring(0, t, 2));
            CheckHelper.dueIndex("ring with third " + t, x, () -> x.ring(0, 1, t));
            CheckHelper.dueIndex("ring of two with " + t, x, () -> x.ring(0, 0, t));
        }
    }

    /** 0 and 1 have two whole sets among them, mixed, and each likes one of them. */
    private static ThimbleSwap mixedSets() {
        ThimbleSwap x = MuseumHelper.museum(3);
        for (int number = 0; number < 6; number++) {
            x.find(number % 2, 3, number, 0, 5);
            x.find(1 - number % 2, 4, number, 0, 5);
        }
        x.like(0, 3, 5);
        x.like(0, 4, 0);
        x.like(1, 4, 5);
        x.like(1, 3, 0);
        return x;
    }

    private static void promise12Fair() {
        ThimbleSwap x = mixedSets();
        CheckHelper.due("fair(1)", 1, () -> x.fair(1));
        CheckHelper.due("swaps agreed to", 1, () -> x.count(4));
        CheckHelper.due("fair(10)", 2, () -> x.fair(10));
        CheckHelper.due("whole sets of 0", 1, () -> x.collector(0, 4));
        CheckHelper.due("whole sets of 1", 1, () -> x.collector(1, 4));
        CheckHelper.due("swaps of 0", 3, () -> x.collector(0, 6));
        CheckHelper.due("swaps of 1", 3, () -> x.collector(1, 6));
        CheckHelper.due("swaps of 2", 0, () -> x.collector(2, 6));
        CheckHelper.due("swaps agreed to", 3, () -> x.count(4));
        CheckHelper.due("swaps refused", 0, () -> x.count(5));
        CheckHelper.due("fair with nothing to swap", 0, () -> x.fair(10));
        CheckHelper.due("fair with just as many", 3, () -> mixedSets().fair(3));
        CheckHelper.due("fair without collectors", 0, () -> new ThimbleSwap().fair(10));
        for (int many : new int[] {-1, 0, 11, Integer.MIN_VALUE, Integer.MAX_VALUE}) {
            ThimbleSwap y = mixedSets();
            CheckHelper.dueArgument("fair " + many, y, () -> y.fair(many));
        }
        ThimbleSwap grudging = MuseumHelper.grudgingPair(1);
        CheckHelper.due("fair(1)", 1, () -> grudging.fair(1));
        CheckHelper.due("a swap of fair() softens", 0, () -> grudging.grudge(0, 1));
    }

    /** The pair 0 and 2 comes ahead of the pair 1 and 2, though that one's swap gains more. */
    private static void promise12FairInOrder() {
        ThimbleSwap x = MuseumHelper.museum(3);
        x.find(0, 0, 0, 0, 5);
        x.find(0, 1, 0, 0, 5);
        x.find(2, 0, 1, 0, 5);
        x.find(2, 1, 1, 0, 5);
        x.find(1, 2, 0, 0, 5);
        x.find(2, 2, 1, 0, 5);
        x.find(1, 1, 2, 0, 5);
        x.like(1, 2, 5);
        CheckHelper.due("first pair has none", -1, () -> x.best(0, 1));
        int ofFirst = x.best(0, 2);
        int ofLast = x.best(1, 2);
        CheckHelper.due("second pair has one", 1, () -> ofFirst >= 0 ? 1 : 0);
        CheckHelper.due("third pair has one", 1, () -> ofLast >= 0 ? 1 : 0);
        CheckHelper.due("fair(1)", 1, () -> x.fair(1));
        CheckHelper.due("swap of the second pair", 2, () -> x.thimble(ofFirst / 36, 4));
        CheckHelper.due("swap of the second pair", 0, () -> x.thimble(ofFirst % 36, 4));
        CheckHelper.due("swaps of 1", 0, () -> x.collector(1, 6));
    }

    private static void promise13Lend() {
        ThimbleSwap x = MuseumHelper.museum(2);
        x.find(0, 0, 0, 0, 5);
        x.find(1, 0, 1, 0, 5);
        x.find(1, 0, 2, 0, 5);
        x.pass(7);
        CheckHelper.due("lend for 1", 8, () -> x.lend(0, 1));
        CheckHelper.due("lend for 30", 37, () -> x.lend(1, 30));
        CheckHelper.due("till", 8, () -> x.thimble(0, 5));
        CheckHelper.due("till", 37, () -> x.thimble(1, 5));
        CheckHelper.due("not lent", -1, () -> x.thimble(2, 5));
        CheckHelper.due("owner stays", 0, () -> x.thimble(0, 4));
        CheckHelper.due("lent ones of 1", 1, () -> x.collector(1, 1));
        CheckHelper.due("all lent ones", 2, () -> x.count(3));
        CheckHelper.dueState("lend again", x, () -> x.lend(0, 5));
        for (int weeks : new int[] {-1, 0, 31, Integer.MIN_VALUE, Integer.MAX_VALUE}) {
            CheckHelper.dueArgument("lend for " + weeks, x, () -> x.lend(2, weeks));
            CheckHelper.dueArgument("lend again for " + weeks, x, () -> x.lend(0, weeks));
        }
        for (int t : new int[] {-1, 3, 36, Integer.MIN_VALUE, Integer.MAX_VALUE}) {
            CheckHelper.dueIndex("lend " + t, x, () -> x.lend(t, 1));
            CheckHelper.dueIndex("lend " + t + " for 0", x, () -> x.lend(t, 0));
        }
        x.pass(2);
        CheckHelper.due("lend when home again", 14, () -> x.lend(0, 5));
    }

    private static void promise14Shows() {
        ThimbleSwap x = MuseumHelper.museum(2);
        x.find(0, 7, 0, 0, 5);
        x.find(1, 7, 0, 0, 5);
        x.find(1, 7, 5, 0, 5);
        x.find(1, 6, 4, 0, 5);
        CheckHelper.due("shows none", 0, () -> x.shows(7));
        x.lend(0, 5);
        CheckHelper.due("shows one", 1, () -> x.shows(7));
        x.lend(1, 6);
        CheckHelper.due("shows the same number twice", 1, () -> x.shows(7));
        x.lend(2, 7);
        CheckHelper.due("shows two", 2, () -> x.shows(7));
        CheckHelper.due("shows of another set", 0, () -> x.shows(6));
        x.pass(6);
        CheckHelper.due("one of two is home", 2, () -> x.shows(7));
        x.pass(1);
        CheckHelper.due("both are home", 1, () -> x.shows(7));
        for (int set : NOT_SETS) {
            CheckHelper.dueIndex("shows " + set, x, () -> x.shows(set));
        }
    }

    private static void promise15Lacks() {
        ThimbleSwap x = MuseumHelper.museum(2);
        CheckHelper.due("lacks without thimbles", -1, () -> x.lacks(0));
        for (int number = 0; number < 5; number++) {
            x.find(number % 2, 0, number, 0, 5);
            x.lend(number, 9);
            CheckHelper.due("lacks with a number that nobody has", -1, () -> x.lacks(0));
        }
        x.find(0, 1, 5, 0, 5);
        CheckHelper.due("another set's number", -1, () -> x.lacks(0));
        x.find(0, 0, 5, 0, 5);
        CheckHelper.due("lacks one", 1, () -> x.lacks(0));
        x.find(0, 0, 0, 0, 5);
        CheckHelper.due("lacks one still", 1, () -> x.lacks(0));
        x.lend(6, 2);
        CheckHelper.due("lacks none", 0, () -> x.lacks(0));
        x.pass(3);
        CheckHelper.due("lacks one again", 1, () -> x.lacks(0));
        x.pass(30);
        CheckHelper.due("lacks all", 6, () -> x.lacks(0));
        for (int set : NOT_SETS) {
            CheckHelper.dueIndex("lacks " + set, x, () -> x.lacks(set));
        }
    }

    private static void promise16Finest() {
        ThimbleSwap x = MuseumHelper.museum(4);
        CheckHelper.due("finest of nothing", -1, () -> x.finest(2));
        x.find(3, 2, 0, 0, 0);
        CheckHelper.due("finest with a state of 0", 3, () -> x.finest(2));
        x.find(1, 2, 0, 0, 0);
        CheckHelper.due("of equal ones the smallest", 1, () -> x.finest(2));
        x.find(3, 2, 0, 0, 4);
        CheckHelper.due("of equal ones the greater sum", 3, () -> x.finest(2));
        x.find(1, 2, 0, 0, 4);
        CheckHelper.due("of equal sums the smallest", 1, () -> x.finest(2));
        x.find(3, 2, 0, 0, 4);
        CheckHelper.due("only the greatest states", 1, () -> x.finest(2));
        x.find(2, 2, 3, 0, 0);
        x.find(2, 2, 4, 0, 1);
        CheckHelper.due("the most numbers", 2, () -> x.finest(2));
        x.find(0, 3, 3, 0, 9);
        CheckHelper.due("of another set", 2, () -> x.finest(2));
        x.lend(5, 3);
        x.lend(6, 3);
        CheckHelper.due("lent ones count", 2, () -> x.finest(2));
        CheckHelper.due("finest of a set that nobody has", -1, () -> x.finest(7));
        for (int set : NOT_SETS) {
            CheckHelper.dueIndex("finest " + set, x, () -> x.finest(set));
        }
    }

    private static void promise17PassBringsHome() {
        ThimbleSwap x = MuseumHelper.museum(1);
        x.find(0, 0, 0, 0, 5);
        x.find(0, 0, 1, 0, 5);
        x.lend(0, 1);
        x.lend(1, 3);
        CheckHelper.due("the week 0 ends", 0, () -> x.pass(1));
        CheckHelper.due("still lent", 1, () -> x.thimble(0, 5));
        CheckHelper.due("the week 1 ends", 1, () -> x.pass(1));
        CheckHelper.due("home", -1, () -> x.thimble(0, 5));
        CheckHelper.due("the weeks 2 and 3 end", 1, () -> x.pass(2));
        CheckHelper.due("the week", 4, () -> x.count(0));
        CheckHelper.due("nobody comes home twice", 0, () -> x.pass(60));
        CheckHelper.due("the week", 64, () -> x.count(0));
        for (int weeks : new int[] {-1, 0, 61, Integer.MIN_VALUE, Integer.MAX_VALUE}) {
            CheckHelper.dueArgument("pass " + weeks, x, () -> x.pass(weeks));
        }
        x.lend(0, 30);
        CheckHelper.due("one week short", 0, () -> x.pass(30));
        CheckHelper.due("the last week", 1, () -> x.pass(1));
    }

    private static void promise17PassWears() {
        ThimbleSwap x = MuseumHelper.museum(1);
        x.find(0, 0, 0, 0, 5);
        x.find(0, 0, 1, 0, 5);
        x.find(0, 0, 2, 0, 0);
        x.find(0, 0, 3, 0, 1);
        x.lend(0, 3);
        x.lend(1, 4);
        x.lend(2, 30);
        x.lend(3, 30);
        CheckHelper.due("all come home", 4, () -> x.pass(60));
        CheckHelper.due("lent for 3", 5, () -> x.thimble(0, 3));
        CheckHelper.due("lent for 4", 4, () -> x.thimble(1, 3));
        CheckHelper.due("state is 0 at least", 0, () -> x.thimble(2, 3));
        CheckHelper.due("lent for 30", 0, () -> x.thimble(3, 3));
        x.lend(1, 3);
        x.pass(4);
        CheckHelper.due("lent for 4, then for 3", 4, () -> x.thimble(1, 3));
        x.lend(1, 4);
        x.pass(2);
        CheckHelper.due("before it is home", 4, () -> x.thimble(1, 3));
        x.pass(3);
        CheckHelper.due("lent for 4 again", 3, () -> x.thimble(1, 3));
    }

    private static void promise17PassSoftens() {
        ThimbleSwap x = MuseumHelper.unequalPair();
        for (int i = 0; i < 3; i++) {
            x.swap(0, 1);
        }
        CheckHelper.due("grudge", 3, () -> x.grudge(0, 1));
        x.pass(1);
        CheckHelper.due("behind the week 0", 2, () -> x.grudge(0, 1));
        x.pass(4);
        CheckHelper.due("behind the week 4", 2, () -> x.grudge(0, 1));
        x.pass(1);
        CheckHelper.due("behind the week 5", 1, () -> x.grudge(0, 1));
        x.pass(5);
        CheckHelper.due("behind the week 10", 0, () -> x.grudge(0, 1));
        x.pass(20);
        CheckHelper.due("0 at least", 0, () -> x.grudge(0, 1));
        CheckHelper.due("0 at least", 0, () -> x.collector(1, 5));
    }

    private static void dueCounts(ThimbleSwap x, int... want) {
        for (int what = 0; what < want.length; what++) {
            int row = what;
            CheckHelper.due("count(" + row + ")", want[row], () -> x.count(row));
        }
    }

    private static void promise18Count() {
        ThimbleSwap x = MuseumHelper.equalPair();
        dueCounts(x, 0, 2, 4, 0, 0, 0, 2 * (4 + 10 + 6));
        x.swap(1, 3);
        x.swap(1, 3);
        x.lend(0, 9);
        x.pass(2);
        dueCounts(x, 2, 2, 4, 1, 1, 1, 2 * (8 + 10 + 6));
        CheckHelper.dueIndex("count(-1)", x, () -> x.count(-1));
        CheckHelper.dueIndex("count(7)", x, () -> x.count(7));
        CheckHelper.dueIndex("count(least)", x, () -> x.count(Integer.MIN_VALUE));
        CheckHelper.dueIndex("count(most)", x, () -> x.count(Integer.MAX_VALUE));
    }

    private static void promise19Mean() {
        ThimbleSwap x = MuseumHelper.museum(2);
        CheckHelper.dueDouble("mean without thimbles", 0.0, x.mean());
        x.find(0, 0, 0, 0, 5);
        CheckHelper.dueDouble("mean of one", 10.0, x.mean());
        x.find(0, 0, 0, 0, 5);
        x.find(1, 0, 0, 0, 6);
        CheckHelper.dueDouble("mean of three", 21.0 / 3, x.mean());
        x.find(1, 0, 0, 0, 7);
        x.find(1, 0, 0, 0, 8);
        x.find(1, 0, 0, 0, 8);
        CheckHelper.dueDouble("mean that is not whole", 23.0 / 6, x.mean());
    }

    private static void promise20Digest() {
        ThimbleSwap x = MuseumHelper.unequalPair();
        x.swap(0, 1);
        x.pass(1);
        x.swap(0, 1);
        x.lend(2, 3);
        int[] told = {
            1, 3, 3, 1, 0, 2, 27 + 14,
            2, 1, 2, 27, 0, 1, 0, /* likings */ 1, 5, 1, 1, 1, 1, 1, 1, /* grudges */ 0, 1, 0,
            1, 0, 1, 14, 0, 0, 0, 1, 1, 1, 1, 1, 1, 1, 1, 0, 0, 0,
            0, 0, 0, 0, 0, 0, 0, 1, 1, 1, 1, 1, 1, 1, 1, 0, 0, 0,
            0, 0, 0, 0, 0, -1,
            1, 0, 1, 9, 1, -1,
            1, 1, 2, 9, 0, 4};
        long d = 761;
        for (int number : told) {
            d = d * 31 + number;
        }
        long want = d;
        CheckHelper.due("digest", want, x::digest);
        CheckHelper.due("digest again", want, x::digest);
        for (int c : NOT_COLLECTORS) {
            CheckHelper.dueIndex("a call that throws", x, () -> x.collector(c, 0));
        }
        for (int t : NOT_THIMBLES) {
            CheckHelper.dueIndex("a call that throws", x, () -> x.thimble(t, 0));
        }
        CheckHelper.due("digest behind calls that throw", want, x::digest);
    }

    /** The last row of everything is in use: a step too far would show as an exception of the machine's. */
    private static void fullMuseum() {
        ThimbleSwap x = MuseumHelper.museum(7);
        for (int t = 0; t < 36; t++) {
            x.find(6 - t % 7, 7 - t % 8, 5 - t % 6, 19 - t % 20, t % 10);
        }
        CheckHelper.due("lend the last", 30, () -> x.lend(35, 30));
        CheckHelper.due("last thimble", 30, () -> x.thimble(35, 5));
        CheckHelper.due("last thimble", 6, () -> x.collector(6, 0));
        CheckHelper.due("grudge", 0, () -> x.grudge(6, 6));
        CheckHelper.due("thimbles that are lent", 1, () -> x.count(3));
        CheckHelper.due("shows", 1, () -> x.shows(4));
        CheckHelper.due("lacks", -1, () -> x.lacks(4));
        CheckHelper.due("finest", 0, () -> Math.min(x.finest(7), 0));
        CheckHelper.due("best is told", 1, () -> x.best(5, 6) >= -1 ? 1 : 0);
        CheckHelper.due("ring is told", 1, () -> x.ring(33, 34, 35) >= 0 ? 1 : 0);
        for (int i = 0; i < 40; i++) {
            CheckHelper.due("fair is told", 1, () -> x.fair(10) >= 0 ? 1 : 0);
        }
        CheckHelper.due("fair comes to an end", 0, () -> x.fair(10));
        CheckHelper.due("pass", 1, () -> x.pass(60));
        CheckHelper.due("digest", x.digest(), x::digest);
    }
}
