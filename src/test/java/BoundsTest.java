/** Just inside and just outside of each bound that the promises name: a test for each bound. */
public final class BoundsTest {
    private BoundsTest() {
    }

    public static void main(String[] args) {
        CheckHelper.runAll(BoundsTest.class);
    }

    private static void dueThimble(ThimbleSwap x, int thimble, int... want) {
        for (int what = 0; what < want.length; what++) {
            int row = what;
            CheckHelper.due("thimble(" + thimble + ", " + row + ")", want[row], () -> x.thimble(thimble, row));
        }
    }

    // ---- 2 join

    private static void join7CollectorsAtMost() {
        ThimbleSwap x = MuseumHelper.museum(6);
        CheckHelper.due("the 7th", 6, x::join);
        CheckHelper.due("collectors", 7, () -> x.count(1));
        CheckHelper.dueState("an 8th", x, x::join);
        CheckHelper.dueState("an 8th, asked again", x, x::join);
        CheckHelper.due("collectors still", 7, () -> x.count(1));
        CheckHelper.dueIndex("no 8th has come", x, () -> x.collector(7, 0));
    }

    private static void joinNumbersFrom0() {
        ThimbleSwap x = new ThimbleSwap();
        CheckHelper.due("the first", 0, x::join);
        x.find(0, 0, 0, 0, 0);
        x.pass(9);
        CheckHelper.due("the second, later on", 1, x::join);
    }

    private static void joinAtFirstLiking1AndGrudge0() {
        ThimbleSwap x = MuseumHelper.unequalPair();
        x.swap(0, 1);
        x.pass(2);
        CheckHelper.due("a later one", 3, x::join);
        for (int set = 0; set < 8; set++) {
            int s = set;
            CheckHelper.due("liking at first", 1, () -> x.like(3, s, 1));
        }
        for (int other = 0; other < 4; other++) {
            int o = other;
            CheckHelper.due("grudge at first", 0, () -> x.grudge(3, o));
            CheckHelper.due("grudge against the new one", 0, () -> x.grudge(o, 3));
        }
    }

    // ---- 3 find

    private static void find36ThimblesAtMost() {
        ThimbleSwap x = MuseumHelper.museum(2);
        for (int t = 0; t < 35; t++) {
            x.find(t % 2, 0, 0, 0, 0);
        }
        CheckHelper.due("the 36th", 35, () -> x.find(1, 7, 5, 19, 9));
        dueThimble(x, 35, 7, 5, 19, 9, 1, -1);
        CheckHelper.dueState("a 37th", x, () -> x.find(0, 0, 0, 0, 0));
        CheckHelper.dueState("a 37th, asked again", x, () -> x.find(1, 7, 5, 19, 9));
        CheckHelper.due("thimbles still", 36, () -> x.count(2));
        CheckHelper.dueIndex("no 37th has come", x, () -> x.thimble(36, 0));
    }

    private static void findNumbersFrom0InTheOrderOfFinding() {
        ThimbleSwap x = MuseumHelper.museum(3);
        CheckHelper.due("the first", 0, () -> x.find(2, 0, 0, 0, 0));
        CheckHelper.due("the second, of another collector", 1, () -> x.find(0, 0, 0, 0, 0));
        CheckHelper.dueArgument("one that is not found", x, () -> x.find(0, 8, 0, 0, 0));
        CheckHelper.due("the third", 2, () -> x.find(1, 0, 0, 0, 0));
    }

    private static void findCollector() {
        ThimbleSwap x = MuseumHelper.museum(3);
        CheckHelper.due("for the first", 0, () -> x.find(0, 1, 1, 1, 1));
        CheckHelper.due("for the last", 1, () -> x.find(2, 1, 1, 1, 1));
        dueThimble(x, 0, 1, 1, 1, 1, 0, -1);
        dueThimble(x, 1, 1, 1, 1, 1, 2, -1);
        CheckHelper.dueIndexOutside("find for", x, 0, 2, c -> x.find(c, 1, 1, 1, 1));
    }

    private static void findCollectorOf7() {
        ThimbleSwap x = MuseumHelper.museum(7);
        CheckHelper.due("for the last", 0, () -> x.find(6, 1, 1, 1, 1));
        CheckHelper.dueIndexOutside("find for", x, 0, 6, c -> x.find(c, 1, 1, 1, 1));
    }

    private static void findSet0To7() {
        ThimbleSwap x = MuseumHelper.museum(1);
        CheckHelper.due("set 0", 0, () -> x.find(0, 0, 1, 1, 1));
        CheckHelper.due("set 7", 1, () -> x.find(0, 7, 1, 1, 1));
        dueThimble(x, 0, 0, 1, 1, 1, 0, -1);
        dueThimble(x, 1, 7, 1, 1, 1, 0, -1);
        CheckHelper.dueArgumentOutside("set", x, 0, 7, set -> x.find(0, set, 1, 1, 1));
    }

    private static void findNumber0To5() {
        ThimbleSwap x = MuseumHelper.museum(1);
        CheckHelper.due("number 0", 0, () -> x.find(0, 1, 0, 1, 1));
        CheckHelper.due("number 5", 1, () -> x.find(0, 1, 5, 1, 1));
        dueThimble(x, 0, 1, 0, 1, 1, 0, -1);
        dueThimble(x, 1, 1, 5, 1, 1, 0, -1);
        CheckHelper.dueArgumentOutside("number", x, 0, 5, number -> x.find(0, 1, number, 1, 1));
    }

    private static void findHallmark0To19() {
        ThimbleSwap x = MuseumHelper.museum(1);
        CheckHelper.due("hallmark 0", 0, () -> x.find(0, 1, 1, 0, 1));
        CheckHelper.due("hallmark 19", 1, () -> x.find(0, 1, 1, 19, 1));
        dueThimble(x, 0, 1, 1, 0, 1, 0, -1);
        dueThimble(x, 1, 1, 1, 19, 1, 0, -1);
        CheckHelper.dueArgumentOutside("hallmark", x, 0, 19, hallmark -> x.find(0, 1, 1, hallmark, 1));
    }

    private static void findState0To9() {
        ThimbleSwap x = MuseumHelper.museum(1);
        CheckHelper.due("state 0", 0, () -> x.find(0, 1, 1, 1, 0));
        CheckHelper.due("state 9", 1, () -> x.find(0, 1, 1, 1, 9));
        dueThimble(x, 0, 1, 1, 1, 0, 0, -1);
        dueThimble(x, 1, 1, 1, 1, 9, 0, -1);
        CheckHelper.dueArgumentOutside("state", x, 0, 9, state -> x.find(0, 1, 1, 1, state));
    }

    // ---- 4 like

    private static void likeCollector() {
        ThimbleSwap x = MuseumHelper.museum(3);
        CheckHelper.due("of the first", 1, () -> x.like(0, 1, 2));
        CheckHelper.due("of the last", 1, () -> x.like(2, 1, 3));
        CheckHelper.due("of the first, now", 2, () -> x.like(0, 1, 2));
        CheckHelper.due("of the last, now", 3, () -> x.like(2, 1, 3));
        CheckHelper.dueIndexOutside("like of", x, 0, 2, c -> x.like(c, 1, 2));
    }

    private static void likeSet0To7() {
        ThimbleSwap x = MuseumHelper.museum(1);
        CheckHelper.due("set 0", 1, () -> x.like(0, 0, 2));
        CheckHelper.due("set 7", 1, () -> x.like(0, 7, 3));
        CheckHelper.due("set 0, now", 2, () -> x.like(0, 0, 2));
        CheckHelper.due("set 7, now", 3, () -> x.like(0, 7, 3));
        CheckHelper.dueIndexOutside("like set", x, 0, 7, set -> x.like(0, set, 2));
    }

    private static void likeLiking0To5() {
        ThimbleSwap x = MuseumHelper.museum(1);
        CheckHelper.due("liking 0", 1, () -> x.like(0, 3, 0));
        CheckHelper.due("liking 5", 0, () -> x.like(0, 3, 5));
        CheckHelper.due("liking 5 again", 5, () -> x.like(0, 3, 5));
        CheckHelper.dueArgumentOutside("liking", x, 0, 5, liking -> x.like(0, 3, liking));
        CheckHelper.due("liking 5 still", 5, () -> x.like(0, 3, 1));
    }

    // ---- 5 collector

    private static void collectorCollector() {
        ThimbleSwap x = MuseumHelper.museum(3);
        x.find(0, 0, 0, 0, 0);
        x.find(2, 0, 0, 0, 0);
        x.find(2, 0, 0, 0, 0);
        CheckHelper.due("the first", 1, () -> x.collector(0, 0));
        CheckHelper.due("the last", 2, () -> x.collector(2, 0));
        for (int what = 0; what <= 6; what++) {
            int row = what;
            CheckHelper.dueIndexOutside("collector, what " + row + ", of", x, 0, 2, c -> x.collector(c, row));
        }
    }

    private static void collectorWhat0To6() {
        ThimbleSwap x = MuseumHelper.crossedPair(2);
        CheckHelper.due("swaps", 7, () -> x.fair(7));
        CheckHelper.due("what 0", 18, () -> x.collector(0, 0));
        CheckHelper.due("what 6", 7, () -> x.collector(0, 6));
        CheckHelper.dueIndexOutside("collector's what", x, 0, 6, what -> x.collector(0, what));
    }

    // ---- 6 grudge

    private static void grudgeCollector() {
        ThimbleSwap x = MuseumHelper.unequalPair();
        MuseumHelper.holdGrudge(x, 2);
        CheckHelper.due("of the first", 2, () -> x.grudge(0, 1));
        CheckHelper.due("of the last", 0, () -> x.grudge(2, 0));
        CheckHelper.dueIndexOutside("grudge of", x, 0, 2, c -> x.grudge(c, 1));
    }

    private static void grudgeOther() {
        ThimbleSwap x = MuseumHelper.unequalPair();
        MuseumHelper.holdGrudge(x, 2);
        CheckHelper.due("against the first", 0, () -> x.grudge(1, 0));
        CheckHelper.due("against the last", 0, () -> x.grudge(0, 2));
        CheckHelper.dueIndexOutside("grudge against", x, 0, 2, c -> x.grudge(0, c));
    }

    private static void grudgeOfTheSameIs0() {
        ThimbleSwap x = MuseumHelper.unequalPair();
        MuseumHelper.holdGrudge(x, 9);
        for (int c = 0; c < 3; c++) {
            int same = c;
            CheckHelper.due("grudge against oneself", 0, () -> x.grudge(same, same));
        }
        CheckHelper.dueIndexOutside("grudge of one who is not here against oneself", x, 0, 2, c -> x.grudge(c, c));
    }

    // ---- 7 thimble

    private static void thimbleThimble() {
        ThimbleSwap x = MuseumHelper.museum(1);
        x.find(0, 1, 0, 0, 0);
        x.find(0, 2, 0, 0, 0);
        x.find(0, 3, 0, 0, 0);
        CheckHelper.due("the first", 1, () -> x.thimble(0, 0));
        CheckHelper.due("the last", 3, () -> x.thimble(2, 0));
        for (int what = 0; what <= 5; what++) {
            int row = what;
            CheckHelper.dueIndexOutside("thimble, what " + row + ", of", x, 0, 2, t -> x.thimble(t, row));
        }
    }

    private static void thimbleWhat0To5() {
        ThimbleSwap x = MuseumHelper.museum(1);
        x.find(0, 7, 0, 0, 0);
        x.lend(0, 8);
        CheckHelper.due("what 0", 7, () -> x.thimble(0, 0));
        CheckHelper.due("what 5", 8, () -> x.thimble(0, 5));
        CheckHelper.dueIndexOutside("thimble's what", x, 0, 5, what -> x.thimble(0, what));
    }

    private static void thimbleMinus1AtHome() {
        ThimbleSwap x = MuseumHelper.museum(1);
        x.find(0, 0, 0, 0, 0);
        CheckHelper.due("at home in the week 0", -1, () -> x.thimble(0, 5));
        x.lend(0, 1);
        CheckHelper.due("lent till 1", 1, () -> x.thimble(0, 5));
        x.pass(1);
        CheckHelper.due("lent till 1 in the week 1", 1, () -> x.thimble(0, 5));
        x.pass(1);
        CheckHelper.due("at home in the week 2", -1, () -> x.thimble(0, 5));
    }

    // ---- 8 gains, 9 swap, 11 ring

    private static void gainsThimble() {
        ThimbleSwap x = MuseumHelper.equalPair();
        CheckHelper.due("of the first", 4, () -> x.gains(0, 2));
        CheckHelper.due("of the last", 4, () -> x.gains(3, 1));
        CheckHelper.dueIndexOutside("gains of", x, 0, 3, t -> x.gains(t, 1));
    }

    private static void gainsOther() {
        ThimbleSwap x = MuseumHelper.equalPair();
        CheckHelper.due("for the first", 4, () -> x.gains(2, 0));
        CheckHelper.due("for the last", 4, () -> x.gains(1, 3));
        CheckHelper.dueIndexOutside("gains for", x, 0, 3, t -> x.gains(1, t));
    }

    private static void gainsOfTheSameCollector() {
        ThimbleSwap x = MuseumHelper.equalPair();
        CheckHelper.dueArgument("both of 0", x, () -> x.gains(0, 1));
        CheckHelper.dueArgument("both of 1", x, () -> x.gains(3, 2));
        CheckHelper.dueArgument("the same thimble", x, () -> x.gains(0, 0));
    }

    private static void gainsLessThanAndJust0() {
        ThimbleSwap x = MuseumHelper.museum(2);
        x.find(0, 0, 0, 0, 4);
        x.find(1, 0, 0, 0, 4);
        x.find(1, 0, 0, 0, 3);
        CheckHelper.due("gain of 0", 0, () -> x.gains(0, 1));
        CheckHelper.due("gain of -1", -1, () -> x.gains(0, 2));
        // 1 has a 4 besides, so that the other one is no gain.
        CheckHelper.due("gain of 0 with a duplicate", 0, () -> x.gains(2, 0));
    }

    private static void swapThimble() {
        CheckHelper.due("swap of the first", 0, () -> MuseumHelper.equalPair().swap(0, 2));
        CheckHelper.due("swap of the last", 0, () -> MuseumHelper.equalPair().swap(3, 1));
        ThimbleSwap x = MuseumHelper.equalPair();
        CheckHelper.dueIndexOutside("swap of", x, 0, 3, t -> x.swap(t, 1));
    }

    private static void swapOther() {
        CheckHelper.due("swap for the first", 0, () -> MuseumHelper.equalPair().swap(2, 0));
        CheckHelper.due("swap for the last", 0, () -> MuseumHelper.equalPair().swap(1, 3));
        ThimbleSwap x = MuseumHelper.equalPair();
        CheckHelper.dueIndexOutside("swap for", x, 0, 3, t -> x.swap(1, t));
    }

    private static void swapOfTheSameCollector() {
        ThimbleSwap x = MuseumHelper.equalPair();
        CheckHelper.dueArgument("both of 0", x, () -> x.swap(0, 1));
        CheckHelper.dueArgument("both of 1", x, () -> x.swap(3, 2));
        CheckHelper.dueArgument("the same thimble", x, () -> x.swap(2, 2));
        x.swap(1, 3);
        CheckHelper.dueArgument("both of 0 since a swap", x, () -> x.swap(0, 3));
        CheckHelper.due("of two since a swap", 3, () -> x.swap(0, 1));
    }

    private static void swapOfALentOne() {
        ThimbleSwap x = MuseumHelper.equalPair();
        x.lend(1, 1);
        CheckHelper.dueState("the first one is lent", x, () -> x.swap(1, 3));
        CheckHelper.dueState("the other one is lent", x, () -> x.swap(3, 1));
        x.lend(3, 1);
        CheckHelper.dueState("both are lent", x, () -> x.swap(1, 3));
        x.pass(1);
        CheckHelper.dueState("both are lent till this week", x, () -> x.swap(1, 3));
        x.pass(1);
        CheckHelper.due("both are at home", 0, () -> x.swap(1, 3));
    }

    /** In this order: who does not gain as much is the first one, the other one, neither. */
    private static void swapAnswers0To3() {
        CheckHelper.due("both gain", 0, () -> MuseumHelper.equalPair().swap(1, 3));
        CheckHelper.due("the first one does not", 1, () -> MuseumHelper.unequalPair().swap(1, 0));
        CheckHelper.due("the other one does not", 2, () -> MuseumHelper.unequalPair().swap(0, 1));
        CheckHelper.due("neither does", 3, () -> MuseumHelper.unequalPair().swap(2, 1));
    }

    private static void ringFirst() {
        ThimbleSwap x = ring(1, 1, 1);
        CheckHelper.due("ring from the first", 3, () -> x.ring(0, 1, 2));
        CheckHelper.due("ring from the last", 3, () -> x.ring(2, 0, 1));
        CheckHelper.dueIndexOutside("ring's first", x, 0, 2, t -> x.ring(t, 1, 2));
    }

    private static void ringSecond() {
        ThimbleSwap x = ring(1, 1, 1);
        CheckHelper.due("ring with the first as second", 3, () -> x.ring(2, 0, 1));
        CheckHelper.due("ring with the last as second", 3, () -> x.ring(1, 2, 0));
        CheckHelper.dueIndexOutside("ring's second", x, 0, 2, t -> x.ring(0, t, 2));
    }

    private static void ringThird() {
        ThimbleSwap x = ring(1, 1, 1);
        CheckHelper.due("ring with the first as third", 3, () -> x.ring(1, 2, 0));
        CheckHelper.due("ring with the last as third", 3, () -> x.ring(0, 1, 2));
        CheckHelper.dueIndexOutside("ring's third", x, 0, 2, t -> x.ring(0, 1, t));
    }

    /** By ring(0, 1, 2) each of the three gains twice what is told, -1 to 4. */
    private static ThimbleSwap ring(int gainOf0, int gainOf1, int gainOf2) {
        int[] gains = {gainOf0, gainOf1, gainOf2};
        ThimbleSwap x = MuseumHelper.museum(3);
        for (int c = 0; c < 3; c++) {
            x.find(c, c, 0, 0, 5);
            x.like(c, (c + 1) % 3, 1 + gains[c]);
        }
        return x;
    }

    private static void ringAnswers0To3() {
        CheckHelper.due("nobody gains", 0, () -> ring(0, 0, 0).ring(0, 1, 2));
        CheckHelper.due("nobody gains, all lose", 0, () -> ring(-1, -1, -1).ring(0, 1, 2));
        CheckHelper.due("the first gains", 1, () -> ring(1, 0, -1).ring(0, 1, 2));
        CheckHelper.due("the second gains", 1, () -> ring(0, 1, 0).ring(0, 1, 2));
        CheckHelper.due("the third gains", 1, () -> ring(-1, 0, 1).ring(0, 1, 2));
        CheckHelper.due("all but the first", 2, () -> ring(0, 1, 1).ring(0, 1, 2));
        CheckHelper.due("all but the second", 2, () -> ring(1, -1, 1).ring(0, 1, 2));
        CheckHelper.due("all but the third", 2, () -> ring(1, 1, 0).ring(0, 1, 2));
        CheckHelper.due("all", 3, () -> ring(1, 1, 1).ring(0, 1, 2));
    }

    private static void ringGainOf1IsMoreThan0() {
        ThimbleSwap x = MuseumHelper.museum(3);
        x.find(0, 0, 0, 0, 4);
        x.find(1, 0, 0, 0, 5);
        x.find(2, 0, 0, 0, 5);
        CheckHelper.due("gain of 1, of 0, of -1", 1, () -> x.ring(0, 1, 2));
        CheckHelper.due("gain of 0, of -1, of 1", 1, () -> x.ring(2, 1, 0));
    }

    private static void ringOfTheSameCollector() {
        ThimbleSwap x = MuseumHelper.museum(3);
        for (int t = 0; t < 6; t++) {
            x.find(t % 3, 0, 0, 0, 0);
        }
        CheckHelper.dueArgument("first and second", x, () -> x.ring(0, 3, 1));
        CheckHelper.dueArgument("second and third", x, () -> x.ring(0, 1, 4));
        CheckHelper.dueArgument("first and third", x, () -> x.ring(5, 1, 2));
        CheckHelper.dueArgument("the same first and second", x, () -> x.ring(0, 0, 1));
        CheckHelper.dueArgument("the same second and third", x, () -> x.ring(0, 1, 1));
        CheckHelper.dueArgument("the same first and third", x, () -> x.ring(2, 1, 2));
        CheckHelper.dueArgument("all the same", x, () -> x.ring(4, 4, 4));
        CheckHelper.due("three owners", 0, () -> x.ring(3, 1, 5));
    }

    private static void ringDoesNotMindGrudgesAndLending() {
        ThimbleSwap x = MuseumHelper.probe(9, 18);
        x.find(2, 7, 0, 9, 0);
        CheckHelper.due("0 would not swap, with a grudge of 9", 1, () -> x.swap(3, 4));
        CheckHelper.due("0 gains 18 in a ring, 1 less, 2 nothing", 1, () -> x.ring(3, 4, 5));
        x.lend(3, 1);
        x.lend(4, 1);
        x.lend(5, 1);
        CheckHelper.due("ring of lent ones", 1, () -> x.ring(3, 4, 5));
        CheckHelper.due("grudge as before", 9, () -> x.grudge(0, 1));
    }

    // ---- 10 best

    private static void bestCollector() {
        ThimbleSwap x = MuseumHelper.museum(3);
        x.find(0, 0, 0, 0, 0);
        CheckHelper.due("of the first", -1, () -> x.best(0, 1));
        CheckHelper.due("of the last", -1, () -> x.best(2, 1));
        CheckHelper.dueIndexOutside("best of", x, 0, 2, c -> x.best(c, 1));
    }

    private static void bestOther() {
        ThimbleSwap x = MuseumHelper.museum(3);
        x.find(0, 0, 0, 0, 0);
        CheckHelper.due("with the first", -1, () -> x.best(1, 0));
        CheckHelper.due("with the last", -1, () -> x.best(1, 2));
        CheckHelper.dueIndexOutside("best with", x, 0, 2, c -> x.best(1, c));
    }

    private static void bestOfTheSame() {
        ThimbleSwap x = MuseumHelper.equalPair();
        CheckHelper.dueArgument("the first", x, () -> x.best(0, 0));
        CheckHelper.dueArgument("the last", x, () -> x.best(1, 1));
        CheckHelper.due("two", 2, () -> x.best(0, 1));
    }

    private static void bestIsMinus1IfThereIsNone() {
        ThimbleSwap same = MuseumHelper.museum(2);
        same.find(0, 0, 0, 0, 4);
        same.find(1, 0, 0, 0, 4);
        CheckHelper.due("gains of 0", -1, () -> same.best(0, 1));
        CheckHelper.due("only the one gains", -1, () -> MuseumHelper.unequalPair().best(0, 1));
        CheckHelper.due("only the other one gains", -1, () -> MuseumHelper.unequalPair().best(1, 0));
    }

    private static void bestMayBe0() {
        ThimbleSwap x = MuseumHelper.museum(2);
        x.find(0, 0, 0, 0, 0);
        x.find(1, 1, 0, 0, 0);
        x.like(0, 1, 2);
        x.like(1, 0, 2);
        CheckHelper.due("thimbles 0 and 1", 1, () -> x.best(0, 1));
        CheckHelper.due("thimbles 1 and 0", 36, () -> x.best(1, 0));
    }

    /** 0 may give 0 or 2 and take 1 or 3: all four swaps bring as much. */
    private static void bestOfSeveralTheLeastNumber() {
        ThimbleSwap x = MuseumHelper.museum(2);
        for (int t = 0; t < 4; t++) {
            x.find(t % 2, t % 2, t / 2, 0, 0);
        }
        x.like(0, 0, 0);
        x.like(1, 1, 0);
        CheckHelper.due("gain by 1", 2, () -> x.gains(0, 1));
        CheckHelper.due("gain by 3", 2, () -> x.gains(0, 3));
        CheckHelper.due("gain by 2 for 1", 2, () -> x.gains(2, 1));
        CheckHelper.due("gain by 2 for 3", 2, () -> x.gains(2, 3));
        CheckHelper.due("the least thimble of the one, then of the other one", 1, () -> x.best(0, 1));
        CheckHelper.due("the other way round", 36, () -> x.best(1, 0));
        x.lend(1, 1);
        CheckHelper.due("the least number without 1", 3, () -> x.best(0, 1));
        CheckHelper.due("the other way round without 1", 3 * 36, () -> x.best(1, 0));
    }

    /** 0 for 3 and 2 for 1 are agreed to, and bring as much; 0 for 1 and 2 for 3 are not agreed to. */
    private static void bestGoesByTheThimbleOfTheOneFirst() {
        ThimbleSwap x = MuseumHelper.museum(2);
        int[][] likings = {{0, 3, 2, 1}, {1, 2, 3, 0}};
        for (int t = 0; t < 4; t++) {
            x.find(t % 2, t, 0, 0, 0);
            x.like(0, t, likings[0][t]);
            x.like(1, t, likings[1][t]);
        }
        CheckHelper.due("0 for 3", 4, () -> x.gains(0, 3) + x.gains(3, 0));
        CheckHelper.due("2 for 1", 4, () -> x.gains(2, 1) + x.gains(1, 2));
        CheckHelper.due("0 and 3", 36 * 0 + 3, () -> x.best(0, 1));
        CheckHelper.due("1 and 2", 36 * 1 + 2, () -> x.best(1, 0));
        CheckHelper.due("fair(1)", 1, () -> x.fair(1));
        CheckHelper.due("fair's swap", 1, () -> x.thimble(0, 4));
    }

    /** 0 gains most by the last swap, both together by the first one. */
    private static void bestIsOfBothAdded() {
        ThimbleSwap x = MuseumHelper.museum(2);
        x.find(0, 0, 0, 0, 0);
        x.find(1, 1, 0, 0, 0);
        x.find(1, 2, 0, 0, 9);
        x.like(0, 0, 0);
        x.like(1, 0, 5);
        x.like(0, 1, 3);
        x.like(1, 1, 0);
        x.like(0, 2, 0);
        x.like(1, 2, 0);
        CheckHelper.due("0 gains by 1", 6, () -> x.gains(0, 1));
        CheckHelper.due("and 1", 10, () -> x.gains(1, 0));
        CheckHelper.due("0 gains by 2", 9, () -> x.gains(0, 2));
        CheckHelper.due("and 1 less", 1, () -> x.gains(2, 0));
        CheckHelper.due("most that both gain", 1, () -> x.best(0, 1));
        CheckHelper.due("most that both gain, the other way round", 36, () -> x.best(1, 0));
    }

    // ---- 12 fair

    private static void fairMany1To10() {
        ThimbleSwap x = MuseumHelper.crossedPair(2);
        CheckHelper.dueArgumentOutside("fair", x, 1, 10, many -> x.fair(many));
        CheckHelper.due("fair(1)", 1, () -> x.fair(1));
        CheckHelper.due("one is made", 1, () -> x.count(4));
        CheckHelper.due("fair(10)", 10, () -> x.fair(10));
        CheckHelper.due("ten more are made", 11, () -> x.count(4));
        CheckHelper.dueArgumentOutside("fair", x, 1, 10, many -> x.fair(many));
    }

    private static void fairMakesAsManyAsThereAre() {
        ThimbleSwap x = MuseumHelper.crossedPair(2);
        CheckHelper.due("10 of 18", 10, () -> x.fair(10));
        CheckHelper.due("7 of 8", 7, () -> x.fair(7));
        CheckHelper.due("the last of 10 asked for", 1, () -> x.fair(10));
        CheckHelper.due("none is left", 0, () -> x.fair(10));
        CheckHelper.due("none is left", 0, () -> x.fair(1));
        CheckHelper.due("all are made", 18, () -> x.count(4));
        CheckHelper.due("whole sets of 0", 3, () -> x.collector(0, 4));
        CheckHelper.due("whole sets of 1", 3, () -> x.collector(1, 4));
        CheckHelper.due("no swap was refused", 0, () -> x.count(5));
    }

    /** The last pair of all is the only one that has something to swap. */
    private static void fairComesToTheLastPair() {
        for (int collectors = 2; collectors <= 7; collectors++) {
            int last = collectors - 1;
            ThimbleSwap x = MuseumHelper.museum(collectors);
            x.find(last, 0, 0, 0, 0);
            x.find(last - 1, 1, 0, 0, 0);
            x.like(last, 1, 2);
            x.like(last - 1, 0, 2);
            CheckHelper.due("fair(10)", 1, () -> x.fair(10));
            CheckHelper.due("owner of 0", last - 1, () -> x.thimble(0, 4));
            CheckHelper.due("owner of 1", last, () -> x.thimble(1, 4));
        }
    }

    /** 0 gets thimble 2 of collector 2, and only then has what 1 wants; 1 and 2 could swap 4 for 3 all along. */
    private static void fairBeginsAgainBehindEachSwap() {
        ThimbleSwap x = MuseumHelper.museum(3);
        int[] owners = {0, 1, 2, 2, 1};
        int[][] likings = {{0, 3, 1, 0, 0}, {0, 1, 3, 1, 0}, {1, 0, 0, 0, 1}};
        for (int set = 0; set < 5; set++) {
            x.find(owners[set], set, 0, 0, 0);
            for (int c = 0; c < 3; c++) {
                x.like(c, set, likings[c][set]);
            }
        }
        CheckHelper.due("nothing for 0 and 1 at first", -1, () -> x.best(0, 1));
        CheckHelper.due("0 and 2", 36 * 0 + 2, () -> x.best(0, 2));
        CheckHelper.due("fair(1)", 1, () -> x.fair(1));
        CheckHelper.due("0 and 1 now", 36 * 2 + 1, () -> x.best(0, 1));
        CheckHelper.due("0 and 2 now", -1, () -> x.best(0, 2));
        CheckHelper.due("1 and 2 now", 36 * 4 + 3, () -> x.best(1, 2));
        CheckHelper.due("fair(1)", 1, () -> x.fair(1));
        CheckHelper.due("1 got thimble 2", 1, () -> x.thimble(2, 4));
        CheckHelper.due("0 got thimble 1", 0, () -> x.thimble(1, 4));
        CheckHelper.due("2 did not swap again", 1, () -> x.collector(2, 6));
        CheckHelper.due("fair(10)", 1, () -> x.fair(10));
        CheckHelper.due("1 got thimble 3 at last", 1, () -> x.thimble(3, 4));
    }

    // ---- 13 lend

    private static void lendThimble() {
        ThimbleSwap x = MuseumHelper.equalPair();
        CheckHelper.dueIndexOutside("lend", x, 0, 3, t -> x.lend(t, 5));
        CheckHelper.due("lend the first", 5, () -> x.lend(0, 5));
        CheckHelper.due("lend the last", 6, () -> x.lend(3, 6));
        CheckHelper.due("those that are lent", 2, () -> x.count(3));
    }

    private static void lendWeeks1To30() {
        ThimbleSwap x = MuseumHelper.equalPair();
        x.pass(3);
        CheckHelper.dueArgumentOutside("lend for", x, 1, 30, weeks -> x.lend(0, weeks));
        CheckHelper.due("lend for 1", 4, () -> x.lend(0, 1));
        CheckHelper.due("lend for 30", 33, () -> x.lend(1, 30));
        CheckHelper.due("till", 4, () -> x.thimble(0, 5));
        CheckHelper.due("till", 33, () -> x.thimble(1, 5));
    }

    private static void lendOneThatIsLent() {
        ThimbleSwap x = MuseumHelper.equalPair();
        x.lend(0, 2);
        CheckHelper.dueState("lent just now", x, () -> x.lend(0, 2));
        x.pass(2);
        CheckHelper.dueState("lent till this week", x, () -> x.lend(0, 2));
        x.pass(1);
        CheckHelper.due("at home again", 5, () -> x.lend(0, 2));
        CheckHelper.dueState("lent again", x, () -> x.lend(0, 30));
    }

    // ---- 14 shows, 15 lacks, 16 finest

    private static void showsSet0To7() {
        ThimbleSwap x = MuseumHelper.museum(1);
        x.find(0, 0, 0, 0, 0);
        x.find(0, 7, 0, 0, 0);
        x.find(0, 7, 5, 0, 0);
        x.lend(0, 1);
        x.lend(1, 1);
        x.lend(2, 1);
        CheckHelper.due("set 0", 1, () -> x.shows(0));
        CheckHelper.due("set 7", 2, () -> x.shows(7));
        CheckHelper.dueIndexOutside("shows", x, 0, 7, set -> x.shows(set));
    }

    private static void showsAnswers0To6() {
        ThimbleSwap x = MuseumHelper.museum(2);
        CheckHelper.due("no thimbles", 0, () -> x.shows(4));
        for (int t = 0; t < 12; t++) {
            x.find(t % 2, 4, t % 6, 0, 0);
        }
        CheckHelper.due("none is lent", 0, () -> x.shows(4));
        for (int t = 0; t < 6; t++) {
            int number = t;
            x.lend(number, 9);
            CheckHelper.due("numbers that are lent", number + 1, () -> x.shows(4));
        }
        x.lend(6, 9);
        CheckHelper.due("a number that is lent twice", 6, () -> x.shows(4));
    }

    private static void lacksSet0To7() {
        ThimbleSwap x = MuseumHelper.museum(1);
        for (int t = 0; t < 12; t++) {
            x.find(0, t < 6 ? 0 : 7, t % 6, 0, 0);
        }
        x.lend(0, 1);
        x.lend(11, 1);
        x.lend(10, 1);
        CheckHelper.due("set 0", 5, () -> x.lacks(0));
        CheckHelper.due("set 7", 4, () -> x.lacks(7));
        CheckHelper.dueIndexOutside("lacks", x, 0, 7, set -> x.lacks(set));
    }

    private static void lacksAnswers0To6() {
        ThimbleSwap x = MuseumHelper.museum(2);
        for (int t = 0; t < 6; t++) {
            x.find(t % 2, 4, t, 0, 0);
        }
        CheckHelper.due("none is lent", 6, () -> x.lacks(4));
        for (int t = 0; t < 6; t++) {
            int number = t;
            x.lend(number, 9);
            CheckHelper.due("numbers that are not lent", 5 - number, () -> x.lacks(4));
        }
    }

    private static void lacksIsMinus1IfNobodyHasANumber() {
        for (int missing = 0; missing < 6; missing++) {
            int lacked = missing;
            ThimbleSwap x = MuseumHelper.museum(2);
            CheckHelper.due("nobody has any", -1, () -> x.lacks(4));
            for (int number = 0; number < 6; number++) {
                x.find(number % 2, number == lacked ? 3 : 4, number, 0, 0);
            }
            CheckHelper.due("nobody has " + lacked, -1, () -> x.lacks(4));
            for (int t = 0; t < 6; t++) {
                x.lend(t, 9);
            }
            CheckHelper.due("all are lent, nobody has " + lacked, -1, () -> x.lacks(4));
            CheckHelper.due("finds it", 6, () -> x.find(0, 4, lacked, 0, 0));
            CheckHelper.due("somebody has " + lacked, 1, () -> x.lacks(4));
        }
    }

    private static void finestSet0To7() {
        ThimbleSwap x = MuseumHelper.museum(2);
        x.find(1, 0, 0, 0, 0);
        x.find(0, 7, 0, 0, 0);
        CheckHelper.due("set 0", 1, () -> x.finest(0));
        CheckHelper.due("set 7", 0, () -> x.finest(7));
        CheckHelper.dueIndexOutside("finest", x, 0, 7, set -> x.finest(set));
    }

    private static void finestIsMinus1IfNobodyHasAny() {
        ThimbleSwap x = MuseumHelper.museum(2);
        CheckHelper.due("no thimbles", -1, () -> x.finest(3));
        x.find(1, 2, 5, 0, 9);
        x.find(1, 4, 0, 0, 9);
        CheckHelper.due("only of the sets beside it", -1, () -> x.finest(3));
        x.find(1, 3, 0, 0, 0);
        CheckHelper.due("one of the state 0", 1, () -> x.finest(3));
    }

    private static void finestHasTheMostNumbers() {
        ThimbleSwap x = MuseumHelper.museum(3);
        x.find(0, 3, 0, 0, 9);
        x.find(0, 3, 0, 0, 9);
        x.find(0, 3, 0, 0, 9);
        x.find(2, 3, 4, 0, 0);
        CheckHelper.due("one number each, the greater state", 0, () -> x.finest(3));
        x.find(2, 3, 5, 0, 0);
        CheckHelper.due("two numbers of the state 0", 2, () -> x.finest(3));
    }

    private static void finestOfSeveralTheGreaterSum() {
        ThimbleSwap x = MuseumHelper.museum(3);
        x.find(0, 3, 0, 0, 4);
        x.find(0, 3, 1, 0, 4);
        x.find(0, 3, 1, 0, 3);
        x.find(2, 3, 4, 0, 0);
        x.find(2, 3, 5, 0, 9);
        CheckHelper.due("9 against 8, duplicates left out", 2, () -> x.finest(3));
        x.find(0, 3, 1, 0, 6);
        CheckHelper.due("9 against 10", 0, () -> x.finest(3));
    }

    private static void finestOfTheseTheSmallestNumber() {
        ThimbleSwap x = MuseumHelper.museum(3);
        x.find(2, 3, 4, 0, 9);
        CheckHelper.due("alone", 2, () -> x.finest(3));
        x.find(1, 3, 1, 0, 9);
        CheckHelper.due("1 and 2", 1, () -> x.finest(3));
        x.find(0, 3, 0, 0, 9);
        CheckHelper.due("all three", 0, () -> x.finest(3));
    }

    // ---- 17 pass, 18 count

    private static void passWeeks1To60() {
        ThimbleSwap x = MuseumHelper.equalPair();
        CheckHelper.dueArgumentOutside("pass", x, 1, 60, weeks -> x.pass(weeks));
        CheckHelper.due("pass(1)", 0, () -> x.pass(1));
        CheckHelper.due("the week", 1, () -> x.count(0));
        CheckHelper.due("pass(60)", 0, () -> x.pass(60));
        CheckHelper.due("the week", 61, () -> x.count(0));
        CheckHelper.due("pass(59)", 0, () -> x.pass(59));
        CheckHelper.due("the week", 120, () -> x.count(0));
    }

    private static void countWhat0To6() {
        ThimbleSwap x = MuseumHelper.equalPair();
        x.pass(4);
        CheckHelper.due("what 0", 4, () -> x.count(0));
        CheckHelper.due("what 6", 2 * (4 + 10 + 6), () -> x.count(6));
        CheckHelper.dueIndexOutside("count", x, 0, 6, what -> x.count(what));
    }

    // ---- 19 mean

    private static void meanIs0WithoutThimbles() {
        CheckHelper.dueDouble("no collectors", 0.0, new ThimbleSwap().mean());
        CheckHelper.dueDouble("collectors without thimbles", 0.0, MuseumHelper.museum(7).mean());
    }

    private static void meanOfOneThimble() {
        ThimbleSwap x = MuseumHelper.museum(2);
        x.find(1, 0, 0, 0, 0);
        CheckHelper.dueDouble("a liking of 1", 5.0, x.mean());
        x.like(1, 0, 0);
        CheckHelper.dueDouble("a liking of 0", 3.0, x.mean());
    }

    private static void meanIsNotCut() {
        ThimbleSwap x = MuseumHelper.museum(2);
        x.find(0, 0, 0, 0, 0);
        x.find(0, 0, 0, 0, 0);
        CheckHelper.dueDouble("5 of 2", 2.5, x.mean());
        x.find(0, 0, 0, 0, 0);
        CheckHelper.dueDouble("5 of 3", 5.0 / 3.0, x.mean());
        x.find(1, 0, 0, 0, 1);
        x.find(1, 0, 0, 0, 1);
        x.find(1, 0, 0, 0, 1);
        x.find(1, 0, 0, 0, 1);
        CheckHelper.dueDouble("11 of 7", 11.0 / 7.0, x.mean());
    }
}
