/** 7 collectors and 36 thimbles: the last ones answer as the others do, and no more come. */
public final class FullMuseumTest {
    private FullMuseumTest() {
    }

    public static void main(String[] args) {
        CheckHelper.runAll(FullMuseumTest.class);
    }

    /** The collectors 5 and 6 have the thimbles 34 and 35, which each wants of the other one; all else is of 0. */
    private static ThimbleSwap lastPair() {
        ThimbleSwap x = MuseumHelper.museum(7);
        for (int t = 0; t < 34; t++) {
            x.find(0, t % 6, t / 6, 0, 9);
        }
        x.find(5, 6, 5, 19, 9);
        x.find(6, 7, 5, 19, 9);
        x.like(5, 7, 5);
        x.like(6, 6, 5);
        for (int set = 0; set < 8; set++) {
            x.like(0, set, 0);
        }
        return x;
    }

    private static void noMoreCome() {
        ThimbleSwap x = MuseumHelper.full();
        CheckHelper.dueState("join", x, x::join);
        CheckHelper.dueState("find", x, () -> x.find(6, 0, 0, 0, 0));
        CheckHelper.due("collectors", 7, () -> x.count(1));
        CheckHelper.due("thimbles", 36, () -> x.count(2));
        x.pass(60);
        x.lend(0, 30);
        CheckHelper.dueState("join, later on", x, x::join);
        CheckHelper.dueState("find, later on", x, () -> x.find(0, 0, 0, 0, 0));
    }

    /** Collectors are not too many because thimbles are, nor the other way round. */
    private static void fullOfOneKindOnly() {
        ThimbleSwap thimbles = MuseumHelper.museum(1);
        for (int t = 0; t < 36; t++) {
            thimbles.find(0, 0, 0, 0, 0);
        }
        CheckHelper.due("join with 36 thimbles", 1, thimbles::join);
        CheckHelper.dueState("find for the new one", thimbles, () -> thimbles.find(1, 0, 0, 0, 0));
        ThimbleSwap collectors = MuseumHelper.museum(7);
        CheckHelper.dueState("join with 7", collectors, collectors::join);
        CheckHelper.due("find with 7 collectors", 0, () -> collectors.find(6, 0, 0, 0, 0));
    }

    private static void eachThimbleIsTold() {
        ThimbleSwap x = MuseumHelper.full();
        for (int thimble = 0; thimble < 36; thimble++) {
            int t = thimble;
            int[] rows = {t % 8, t % 6, t % 20, t % 10, t % 7, -1};
            for (int what = 0; what <= 5; what++) {
                int row = what;
                CheckHelper.due("thimble(" + t + ", " + row + ")", rows[row], () -> x.thimble(t, row));
            }
        }
    }

    private static void eachCollectorIsTold() {
        ThimbleSwap x = MuseumHelper.full();
        for (int c = 0; c < 7; c++) {
            int one = c;
            CheckHelper.due("thimbles", c == 0 ? 6 : 5, () -> x.collector(one, 0));
            CheckHelper.due("lent ones", 0, () -> x.collector(one, 1));
            CheckHelper.due("grudges", 0, () -> x.collector(one, 5));
        }
        CheckHelper.dueIndex("an 8th", x, () -> x.collector(7, 0));
    }

    private static void lastOnesAreLiked() {
        ThimbleSwap x = lastPair();
        CheckHelper.due("like of the last", 5, () -> x.like(6, 6, 4));
        CheckHelper.due("like of the last", 4, () -> x.like(6, 6, 5));
        CheckHelper.due("worth of the last", 2 + 9 + 3, () -> x.collector(6, 3));
    }

    private static void lastOnesGain() {
        ThimbleSwap x = lastPair();
        CheckHelper.due("gains(34, 35)", 8, () -> x.gains(34, 35));
        CheckHelper.due("gains(35, 34)", 8, () -> x.gains(35, 34));
        CheckHelper.dueIndex("gains(35, 36)", x, () -> x.gains(35, 36));
        CheckHelper.dueIndex("gains(36, 35)", x, () -> x.gains(36, 35));
    }

    private static void lastOnesSwap() {
        ThimbleSwap x = lastPair();
        CheckHelper.due("swap", 0, () -> x.swap(35, 34));
        CheckHelper.due("owner of 34", 6, () -> x.thimble(34, 4));
        CheckHelper.due("owner of 35", 5, () -> x.thimble(35, 4));
        CheckHelper.due("back again", 3, () -> x.swap(34, 35));
        CheckHelper.dueIndex("swap(36, 35)", x, () -> x.swap(36, 35));
    }

    private static void lastOnesAreBest() {
        ThimbleSwap x = lastPair();
        CheckHelper.due("best(5, 6)", 36 * 34 + 35, () -> x.best(5, 6));
        CheckHelper.due("best(6, 5)", 36 * 35 + 34, () -> x.best(6, 5));
        CheckHelper.dueIndex("best(6, 7)", x, () -> x.best(6, 7));
    }

    private static void lastOnesSwapByFair() {
        ThimbleSwap x = lastPair();
        CheckHelper.due("fair(10)", 1, () -> x.fair(10));
        CheckHelper.due("owner of 34", 6, () -> x.thimble(34, 4));
        CheckHelper.due("owner of 35", 5, () -> x.thimble(35, 4));
        CheckHelper.due("swaps of 5", 1, () -> x.collector(5, 6));
        CheckHelper.due("swaps of 6", 1, () -> x.collector(6, 6));
        CheckHelper.due("swaps of all", 1, () -> x.count(4));
    }

    private static void lastOnesHoldGrudges() {
        ThimbleSwap x = lastPair();
        x.like(6, 6, 0);
        CheckHelper.due("6 refuses", 2, () -> x.swap(34, 35));
        CheckHelper.due("grudge of 5 against 6", 1, () -> x.grudge(5, 6));
        CheckHelper.due("grudge of 6 against 5", 0, () -> x.grudge(6, 5));
        x.like(6, 6, 5);
        x.like(5, 7, 0);
        CheckHelper.due("5 refuses", 1, () -> x.swap(34, 35));
        CheckHelper.due("grudge of 6 against 5", 1, () -> x.grudge(6, 5));
        CheckHelper.due("grudges of 6", 1, () -> x.collector(6, 5));
        x.pass(1);
        CheckHelper.due("grudge of 5 against 6, a week later", 0, () -> x.grudge(5, 6));
        CheckHelper.due("grudge of 6 against 5, a week later", 0, () -> x.grudge(6, 5));
    }

    private static void lastOnesInARing() {
        ThimbleSwap x = lastPair();
        // 5 gets 35, 6 gets a thimble of the set 3, 0 gets 34 that is not liked but has a new hallmark.
        CheckHelper.due("ring(34, 35, 33)", 2, () -> x.ring(34, 35, 33));
        CheckHelper.due("ring(35, 34, 33)", 2, () -> x.ring(35, 34, 33));
        CheckHelper.dueIndex("ring(34, 35, 36)", x, () -> x.ring(34, 35, 36));
        CheckHelper.dueArgument("ring(34, 35, 34)", x, () -> x.ring(34, 35, 34));
    }

    private static void lastOnesAreLent() {
        ThimbleSwap x = lastPair();
        CheckHelper.due("lend the last", 30, () -> x.lend(35, 30));
        CheckHelper.due("till", 30, () -> x.thimble(35, 5));
        CheckHelper.due("lent ones of 6", 1, () -> x.collector(6, 1));
        CheckHelper.due("all lent ones", 1, () -> x.count(3));
        CheckHelper.due("shows", 1, () -> x.shows(7));
        CheckHelper.due("best", -1, () -> x.best(5, 6));
        CheckHelper.dueIndex("lend(36)", x, () -> x.lend(36, 30));
        CheckHelper.due("home", 1, () -> x.pass(31));
        CheckHelper.due("state", 8, () -> x.thimble(35, 3));
    }

    private static void lastOnesAreFinest() {
        ThimbleSwap x = lastPair();
        CheckHelper.due("finest(6)", 5, () -> x.finest(6));
        CheckHelper.due("finest(7)", 6, () -> x.finest(7));
        CheckHelper.due("finest(0)", 0, () -> x.finest(0));
        CheckHelper.due("lacks a set that is there", 6, () -> x.lacks(0));
        CheckHelper.due("lacks a set without its last number", -1, () -> x.lacks(4));
        CheckHelper.due("lacks(7)", -1, () -> x.lacks(7));
    }

    private static void worthOfAllIsAdded() {
        ThimbleSwap x = lastPair();
        int due = 34 * 9 + 3 + 2 * (2 + 9 + 3);
        CheckHelper.due("worth of all", due, () -> x.count(6));
        CheckHelper.dueDouble("mean", due / 36.0, x.mean());
    }

    /** Six whole sets of 36 thimbles, all of them lent. */
    private static void allIsShown() {
        ThimbleSwap x = MuseumHelper.museum(7);
        for (int t = 0; t < 36; t++) {
            x.find(t % 7, 2 + t / 6, t % 6, 0, 9);
            x.lend(t, 30);
        }
        for (int set = 0; set < 8; set++) {
            int s = set;
            CheckHelper.due("shows", s < 2 ? 0 : 6, () -> x.shows(s));
            CheckHelper.due("lacks", s < 2 ? -1 : 0, () -> x.lacks(s));
        }
        CheckHelper.due("all come home", 36, () -> x.pass(31));
        CheckHelper.due("worth of all, a little less", 36 * 8,
            () -> x.count(6) - 7 * 3 - worthOfNumbers(x));
    }

    /** 2 for each set of each collector, by the square of its numbers. */
    private static int worthOfNumbers(ThimbleSwap x) {
        int[][] numbers = new int[7][8];
        for (int t = 0; t < 36; t++) {
            numbers[x.thimble(t, 4)][x.thimble(t, 0)]++;
        }
        int worth = 0;
        for (int[] ofOne : numbers) {
            for (int n : ofOne) {
                worth += 2 * n * n;
            }
        }
        return worth;
    }
}
