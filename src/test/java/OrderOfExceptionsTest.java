/** Of several exceptions that apply, the one that is named first is thrown: a test for each two of each method. */
public final class OrderOfExceptionsTest {
    private OrderOfExceptionsTest() {
    }

    public static void main(String[] args) {
        CheckHelper.runAll(OrderOfExceptionsTest.class);
    }

    // ---- find: no such collector, then a wrong argument, then 36 thimbles

    private static void findNoCollectorAheadOfArguments() {
        ThimbleSwap x = MuseumHelper.museum(2);
        for (int c : new int[] {-1, 2}) {
            CheckHelper.dueIndex("wrong set", x, () -> x.find(c, -1, 0, 0, 0));
            CheckHelper.dueIndex("wrong set", x, () -> x.find(c, 8, 0, 0, 0));
            CheckHelper.dueIndex("wrong number", x, () -> x.find(c, 0, -1, 0, 0));
            CheckHelper.dueIndex("wrong number", x, () -> x.find(c, 0, 6, 0, 0));
            CheckHelper.dueIndex("wrong hallmark", x, () -> x.find(c, 0, 0, -1, 0));
            CheckHelper.dueIndex("wrong hallmark", x, () -> x.find(c, 0, 0, 20, 0));
            CheckHelper.dueIndex("wrong state", x, () -> x.find(c, 0, 0, 0, -1));
            CheckHelper.dueIndex("wrong state", x, () -> x.find(c, 0, 0, 0, 10));
            CheckHelper.dueIndex("all wrong", x, () -> x.find(c, 8, 6, 20, 10));
        }
    }

    private static void findNoCollectorAheadOf36() {
        ThimbleSwap x = MuseumHelper.full();
        CheckHelper.dueIndex("too small", x, () -> x.find(-1, 0, 0, 0, 0));
        CheckHelper.dueIndex("too large", x, () -> x.find(7, 0, 0, 0, 0));
    }

    private static void findArgumentsAheadOf36() {
        ThimbleSwap x = MuseumHelper.full();
        CheckHelper.dueArgument("wrong set", x, () -> x.find(0, -1, 0, 0, 0));
        CheckHelper.dueArgument("wrong set", x, () -> x.find(0, 8, 0, 0, 0));
        CheckHelper.dueArgument("wrong number", x, () -> x.find(0, 0, -1, 0, 0));
        CheckHelper.dueArgument("wrong number", x, () -> x.find(0, 0, 6, 0, 0));
        CheckHelper.dueArgument("wrong hallmark", x, () -> x.find(0, 0, 0, -1, 0));
        CheckHelper.dueArgument("wrong hallmark", x, () -> x.find(0, 0, 0, 20, 0));
        CheckHelper.dueArgument("wrong state", x, () -> x.find(0, 0, 0, 0, -1));
        CheckHelper.dueArgument("wrong state", x, () -> x.find(0, 0, 0, 0, 10));
        CheckHelper.dueState("all right", x, () -> x.find(0, 0, 0, 0, 0));
    }

    private static void findAllThree() {
        ThimbleSwap x = MuseumHelper.full();
        CheckHelper.dueIndex("too small", x, () -> x.find(-1, -1, 0, 0, 0));
        CheckHelper.dueIndex("too large", x, () -> x.find(7, 0, 0, 0, 10));
    }

    // ---- like: no such collector or set, then a wrong liking

    private static void likeNoCollectorAheadOfLiking() {
        ThimbleSwap x = MuseumHelper.museum(2);
        for (int liking : new int[] {-1, 6}) {
            CheckHelper.dueIndex("too small", x, () -> x.like(-1, 0, liking));
            CheckHelper.dueIndex("too large", x, () -> x.like(2, 0, liking));
        }
    }

    private static void likeNoSetAheadOfLiking() {
        ThimbleSwap x = MuseumHelper.museum(2);
        for (int liking : new int[] {-1, 6}) {
            CheckHelper.dueIndex("too small", x, () -> x.like(0, -1, liking));
            CheckHelper.dueIndex("too large", x, () -> x.like(0, 8, liking));
            CheckHelper.dueIndex("no such collector either", x, () -> x.like(2, 8, liking));
        }
    }

    // ---- gains: no such thimble, then both of the same collector

    private static void gainsNoThimbleAheadOfTheSame() {
        ThimbleSwap x = MuseumHelper.museum(1);
        x.find(0, 0, 0, 0, 0);
        CheckHelper.dueIndex("the same too small", x, () -> x.gains(-1, -1));
        CheckHelper.dueIndex("the same too large", x, () -> x.gains(1, 1));
        CheckHelper.dueIndex("the first one too large", x, () -> x.gains(1, 0));
        CheckHelper.dueIndex("the other one too large", x, () -> x.gains(0, 1));
        CheckHelper.dueArgument("the same that is there", x, () -> x.gains(0, 0));
    }

    // ---- swap: no such thimble, then both of the same collector, then one is lent

    private static void swapNoThimbleAheadOfTheSame() {
        ThimbleSwap x = MuseumHelper.museum(1);
        x.find(0, 0, 0, 0, 0);
        CheckHelper.dueIndex("the same too small", x, () -> x.swap(-1, -1));
        CheckHelper.dueIndex("the same too large", x, () -> x.swap(1, 1));
        CheckHelper.dueIndex("the first one too large", x, () -> x.swap(1, 0));
        CheckHelper.dueIndex("the other one too large", x, () -> x.swap(0, 1));
    }

    private static void swapNoThimbleAheadOfLent() {
        ThimbleSwap x = MuseumHelper.equalPair();
        x.lend(0, 5);
        CheckHelper.dueIndex("lent, and too small", x, () -> x.swap(0, -1));
        CheckHelper.dueIndex("lent, and too large", x, () -> x.swap(0, 4));
        CheckHelper.dueIndex("too small, and lent", x, () -> x.swap(-1, 0));
        CheckHelper.dueIndex("too large, and lent", x, () -> x.swap(4, 0));
    }

    private static void swapTheSameAheadOfLent() {
        ThimbleSwap x = MuseumHelper.equalPair();
        x.lend(0, 5);
        CheckHelper.dueArgument("the first one is lent", x, () -> x.swap(0, 1));
        CheckHelper.dueArgument("the other one is lent", x, () -> x.swap(1, 0));
        CheckHelper.dueArgument("one thimble, lent", x, () -> x.swap(0, 0));
        x.lend(1, 5);
        CheckHelper.dueArgument("both are lent", x, () -> x.swap(0, 1));
        CheckHelper.dueState("lent, and of two", x, () -> x.swap(0, 2));
    }

    /** That nobody would agree to it does not matter either: nothing is told, and nothing is counted. */
    private static void swapLentAheadOfRefused() {
        ThimbleSwap x = MuseumHelper.unequalPair();
        x.lend(0, 5);
        CheckHelper.dueState("0 would gain", x, () -> x.swap(0, 1));
        CheckHelper.dueState("0 would gain", x, () -> x.swap(1, 0));
        CheckHelper.due("no grudge", 0, () -> x.grudge(0, 1));
        CheckHelper.due("no refusal", 0, () -> x.count(5));
    }

    // ---- best: no such collector, then both are the same

    private static void bestNoCollectorAheadOfTheSame() {
        ThimbleSwap x = MuseumHelper.museum(2);
        CheckHelper.dueIndex("the same too small", x, () -> x.best(-1, -1));
        CheckHelper.dueIndex("the same too large", x, () -> x.best(2, 2));
        CheckHelper.dueArgument("the same that is here", x, () -> x.best(1, 1));
    }

    // ---- ring: no such thimble, then two of the same collector

    private static void ringNoThimbleAheadOfTheSame() {
        ThimbleSwap x = MuseumHelper.equalPair();
        for (int t : new int[] {-1, 4}) {
            CheckHelper.dueIndex("the first, and two of 0", x, () -> x.ring(t, 0, 1));
            CheckHelper.dueIndex("the second, and two of 0", x, () -> x.ring(0, t, 1));
            CheckHelper.dueIndex("the third, and two of 0", x, () -> x.ring(0, 1, t));
            CheckHelper.dueIndex("the first, and the same twice", x, () -> x.ring(t, 3, 3));
            CheckHelper.dueIndex("the third, and the same twice", x, () -> x.ring(3, 3, t));
            CheckHelper.dueIndex("the first and the second", x, () -> x.ring(t, t, 0));
            CheckHelper.dueIndex("all three", x, () -> x.ring(t, t, t));
        }
    }

    // ---- lend: no such thimble, then wrong weeks, then it is lent

    private static void lendNoThimbleAheadOfWeeks() {
        ThimbleSwap x = MuseumHelper.equalPair();
        for (int weeks : new int[] {0, 31}) {
            CheckHelper.dueIndex("too small", x, () -> x.lend(-1, weeks));
            CheckHelper.dueIndex("too large", x, () -> x.lend(4, weeks));
        }
    }

    private static void lendWeeksAheadOfLent() {
        ThimbleSwap x = MuseumHelper.equalPair();
        x.lend(0, 5);
        CheckHelper.dueArgument("too few", x, () -> x.lend(0, 0));
        CheckHelper.dueArgument("too many", x, () -> x.lend(0, 31));
        CheckHelper.dueState("lent alone", x, () -> x.lend(0, 30));
    }

    // ---- collector, grudge, thimble: two reasons for the same exception

    private static void twoReasonsForOneException() {
        ThimbleSwap x = MuseumHelper.equalPair();
        CheckHelper.dueIndex("collector", x, () -> x.collector(2, 7));
        CheckHelper.dueIndex("collector", x, () -> x.collector(-1, -1));
        CheckHelper.dueIndex("grudge", x, () -> x.grudge(2, -1));
        CheckHelper.dueIndex("grudge", x, () -> x.grudge(-1, 2));
        CheckHelper.dueIndex("thimble", x, () -> x.thimble(4, 6));
        CheckHelper.dueIndex("thimble", x, () -> x.thimble(-1, -1));
        CheckHelper.dueIndex("like", x, () -> x.like(2, 8, 1));
        CheckHelper.dueArgument("find", x, () -> x.find(0, 8, 6, 20, 10));
    }
}
