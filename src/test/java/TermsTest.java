/** The boundary cases of the section 'Terms', on which several promises build: a test for each. */
public final class TermsTest {
    private TermsTest() {
    }

    public static void main(String[] args) {
        CheckHelper.runAll(TermsTest.class);
    }

    // ---- worth

    private static void dueWorth(String told, ThimbleSwap x, int want) {
        CheckHelper.due(told, want, () -> x.collector(0, 3));
    }

    private static void worthOfNothingIs0() {
        ThimbleSwap x = MuseumHelper.museum(1);
        for (int set = 0; set < 8; set++) {
            x.like(0, set, 5);
        }
        dueWorth("no thimbles", x, 0);
    }

    private static void worthOfEachHowManyNumbers() {
        for (int liking = 0; liking <= 5; liking++) {
            ThimbleSwap x = MuseumHelper.museum(1);
            x.like(0, 7, liking);
            for (int n = 1; n <= 6; n++) {
                x.find(0, 7, 6 - n, 0, 0);
                dueWorth(n + " numbers, liking " + liking, x, liking * 2 * n * n + 3);
            }
        }
    }

    private static void worthOfLiking0() {
        ThimbleSwap x = MuseumHelper.museum(1);
        x.like(0, 2, 0);
        x.find(0, 2, 0, 0, 0);
        dueWorth("a hallmark alone", x, 3);
        x.find(0, 2, 1, 0, 9);
        dueWorth("a hallmark and a state", x, 12);
    }

    private static void worthOfTheGreatestStateAlone() {
        for (int state = 0; state <= 9; state++) {
            ThimbleSwap x = MuseumHelper.museum(1);
            x.find(0, 0, 0, 0, state);
            dueWorth("one of the state " + state, x, 5 + state);
            x.find(0, 0, 0, 0, 4);
            dueWorth("and one of the state 4", x, 5 + Math.max(state, 4));
            x.find(0, 0, 0, 0, 0);
            dueWorth("and one of the state 0", x, 5 + Math.max(state, 4));
        }
    }

    private static void worthOfTheSameNumberInTwoSets() {
        ThimbleSwap x = MuseumHelper.museum(1);
        x.find(0, 0, 5, 0, 1);
        x.find(0, 1, 5, 0, 2);
        // The first number of a set, behind the last one of the set ahead of it.
        x.find(0, 1, 0, 0, 4);
        dueWorth("sets are apart", x, 2 + 1 + 8 + 2 + 4 + 3);
    }

    private static void worthOfHallmarks1To20() {
        ThimbleSwap x = MuseumHelper.museum(1);
        for (int hallmark = 0; hallmark < 20; hallmark++) {
            x.find(0, 0, 0, hallmark, 0);
            int different = hallmark + 1;
            CheckHelper.due("different hallmarks", different, () -> x.collector(0, 2));
            dueWorth(different + " hallmarks", x, 2 + 3 * different);
        }
        x.find(0, 0, 0, 19, 0);
        dueWorth("the last hallmark again", x, 2 + 60);
        x.find(0, 0, 0, 0, 0);
        dueWorth("the first hallmark again", x, 2 + 60);
    }

    private static void worthOfTheMost() {
        ThimbleSwap x = MuseumHelper.museum(2);
        for (int t = 0; t < 36; t++) {
            x.find(0, t / 6, t % 6, t % 20, 9);
        }
        for (int set = 0; set < 8; set++) {
            x.like(0, set, 5);
        }
        dueWorth("six whole sets", x, 6 * (5 * 2 * 36 + 54) + 60);
        CheckHelper.due("whole sets", 6, () -> x.collector(0, 4));
        CheckHelper.due("worth of all", 2544, () -> x.count(6));
        CheckHelper.dueDouble("mean", 2544.0 / 36.0, x.mean());
    }

    private static void worthOfLentOnes() {
        ThimbleSwap x = MuseumHelper.museum(1);
        x.find(0, 0, 0, 0, 7);
        x.find(0, 0, 1, 1, 8);
        x.lend(0, 5);
        dueWorth("one is lent", x, 8 + 15 + 6);
        x.lend(1, 5);
        dueWorth("both are lent", x, 8 + 15 + 6);
    }

    private static void wholeIsAllSixNumbers() {
        ThimbleSwap x = MuseumHelper.museum(1);
        for (int number = 0; number < 5; number++) {
            x.find(0, 3, number, 0, 0);
        }
        x.find(0, 3, 4, 1, 9);
        x.find(0, 4, 5, 0, 0);
        CheckHelper.due("five numbers of six thimbles", 0, () -> x.collector(0, 4));
        x.find(0, 3, 5, 0, 0);
        CheckHelper.due("six numbers", 1, () -> x.collector(0, 4));
    }

    // ---- the weight of grudges

    private static void gainJustTwiceTheGrudgeIsNotEnough() {
        for (int grudge = 0; grudge <= 9; grudge++) {
            int g = grudge;
            ThimbleSwap x = MuseumHelper.probe(g, 2 * g);
            CheckHelper.due("best, grudge " + g, -1, () -> x.best(0, 1));
            CheckHelper.due("best, the other way round", -1, () -> x.best(1, 0));
            CheckHelper.due("fair", 0, () -> x.fair(10));
            CheckHelper.due("swap, grudge " + g, 1, () -> x.swap(3, 4));
            CheckHelper.due("grudge that weighed", g, () -> x.grudge(0, 1));
            CheckHelper.due("grudge of the one who would swap", 1, () -> x.grudge(1, 0));
        }
    }

    private static void gain1MoreThanTwiceTheGrudgeIsEnough() {
        for (int grudge = 0; grudge <= 9; grudge++) {
            int g = grudge;
            ThimbleSwap x = MuseumHelper.probe(g, 2 * g + 1);
            CheckHelper.due("best, grudge " + g, 36 * 3 + 4, () -> x.best(0, 1));
            CheckHelper.due("best, the other way round", 36 * 4 + 3, () -> x.best(1, 0));
            CheckHelper.due("swap, grudge " + g, 0, () -> x.swap(3, 4));
            CheckHelper.due("grudge is 1 less, at least 0", Math.max(g - 1, 0), () -> x.grudge(0, 1));
            CheckHelper.due("grudge of the other one", 0, () -> x.grudge(1, 0));
            ThimbleSwap y = MuseumHelper.probe(g, 2 * g + 1);
            CheckHelper.due("fair", 1, () -> y.fair(1));
            CheckHelper.due("fair's swap", 1, () -> y.thimble(3, 4));
        }
    }

    private static void grudgeOfTheOtherOneWeighsAlike() {
        for (int grudge = 0; grudge <= 9; grudge++) {
            int g = grudge;
            CheckHelper.due("just twice", 2, () -> MuseumHelper.probe(g, 2 * g).swap(4, 3));
            CheckHelper.due("1 more", 0, () -> MuseumHelper.probe(g, 2 * g + 1).swap(4, 3));
        }
    }

    private static void grudgeAgainstTheOneDoesNotWeigh() {
        ThimbleSwap x = MuseumHelper.probe(9, 19);
        CheckHelper.due("1 gains 1, and has no grudge", 1, () -> x.gains(4, 3));
        CheckHelper.due("swap", 0, () -> x.swap(3, 4));
    }

    // ---- a grudge that is 1 greater (at most 9)

    private static void grudgeGrowsTo9() {
        ThimbleSwap x = MuseumHelper.unequalPair();
        for (int times = 1; times <= 12; times++) {
            int due = Math.min(times, 9);
            CheckHelper.due("swap that 1 refuses", 2, () -> x.swap(0, 1));
            CheckHelper.due("grudge", due, () -> x.grudge(0, 1));
            CheckHelper.due("all grudges of 0", due, () -> x.collector(0, 5));
        }
        CheckHelper.due("grudge of the one who refused", 0, () -> x.grudge(1, 0));
        CheckHelper.due("refused swaps", 12, () -> x.count(5));
    }

    private static void grudgeGrowsForTheOtherOneAlike() {
        ThimbleSwap x = MuseumHelper.unequalPair();
        for (int times = 1; times <= 12; times++) {
            int due = Math.min(times, 9);
            CheckHelper.due("swap that 1 asks for", 1, () -> x.swap(1, 0));
            CheckHelper.due("grudge", due, () -> x.grudge(0, 1));
        }
        CheckHelper.due("grudge of 1", 0, () -> x.grudge(1, 0));
    }

    private static void grudgeStaysIfNeitherGains() {
        ThimbleSwap x = MuseumHelper.unequalPair();
        MuseumHelper.holdGrudge(x, 4);
        CheckHelper.due("neither gains", 3, () -> x.swap(2, 1));
        CheckHelper.due("grudge of 0", 4, () -> x.grudge(0, 1));
        CheckHelper.due("grudge of 1", 0, () -> x.grudge(1, 0));
        CheckHelper.due("refused swaps", 5, () -> x.count(5));
    }

    private static void grudgesAgainst6OthersAre54AtMost() {
        ThimbleSwap x = MuseumHelper.museum(7);
        x.find(0, 0, 0, 0, 0);
        x.find(0, 1, 1, 0, 9);
        x.like(0, 1, 5);
        for (int c = 1; c < 7; c++) {
            int thimble = x.find(c, 1, 0, 0, 9);
            for (int times = 0; times < 10; times++) {
                CheckHelper.due("swap that " + c + " refuses", 2, () -> x.swap(0, thimble));
            }
        }
        CheckHelper.due("all grudges of 0", 54, () -> x.collector(0, 5));
        CheckHelper.due("all grudges of 1", 0, () -> x.collector(1, 5));
        CheckHelper.due("refused swaps", 60, () -> x.count(5));
    }

    // ---- a grudge that is 1 less (at least 0)

    private static void grudgesAreLessByASwap() {
        ThimbleSwap x = MuseumHelper.crossedPair(2);
        CheckHelper.due("swap with no grudges", 0, () -> x.swap(0, 18));
        CheckHelper.due("grudge is 0 still", 0, () -> x.grudge(0, 1));
        CheckHelper.due("grudge is 0 still", 0, () -> x.grudge(1, 0));
        CheckHelper.due("back again, which neither wants", 3, () -> x.swap(18, 0));
        CheckHelper.due("no grudge by it", 0, () -> x.grudge(0, 1) + x.grudge(1, 0));
    }

    private static void grudgesOfBothAreLessByASwap() {
        ThimbleSwap x = grudgesOf2();
        CheckHelper.due("swap", 0, () -> x.swap(2, 3));
        CheckHelper.due("grudge of 0", 1, () -> x.grudge(0, 1));
        CheckHelper.due("grudge of 1", 1, () -> x.grudge(1, 0));
        CheckHelper.due("swap", 0, () -> x.swap(4, 5));
        CheckHelper.due("grudge of 0", 0, () -> x.grudge(0, 1));
        CheckHelper.due("grudge of 1", 0, () -> x.grudge(1, 0));
        CheckHelper.due("swap", 0, () -> x.swap(6, 7));
        CheckHelper.due("grudge of 0 is 0 at least", 0, () -> x.grudge(0, 1));
        CheckHelper.due("grudge of 1 is 0 at least", 0, () -> x.grudge(1, 0));
    }

    private static void grudgesOfBothAreLessByFair() {
        ThimbleSwap x = grudgesOf2();
        CheckHelper.due("fair(1)", 1, () -> x.fair(1));
        CheckHelper.due("grudge of 0", 1, () -> x.grudge(0, 1));
        CheckHelper.due("grudge of 1", 1, () -> x.grudge(1, 0));
        CheckHelper.due("fair(2)", 2, () -> x.fair(2));
        CheckHelper.due("grudge of 0", 0, () -> x.grudge(0, 1));
        CheckHelper.due("grudge of 1", 0, () -> x.grudge(1, 0));
    }

    private static void grudgeAgainstAThirdStays() {
        ThimbleSwap x = grudgesOf2();
        x.find(2, 1, 0, 0, 5);
        CheckHelper.due("swap that 2 refuses", 2, () -> x.swap(0, 8));
        CheckHelper.due("swap of 0 and 1", 0, () -> x.swap(2, 3));
        CheckHelper.due("grudge of 0 against 2", 1, () -> x.grudge(0, 2));
        CheckHelper.due("grudge of 2 against 0", 0, () -> x.grudge(2, 0));
    }

    /** 0 and 1 hold a grudge of 2 against each other; both gain 10 or more by a swap of 2 for 3, 4 for 5, 6 for 7. */
    private static ThimbleSwap grudgesOf2() {
        ThimbleSwap x = MuseumHelper.museum(3);
        x.find(0, 0, 0, 0, 0);
        x.find(1, 0, 0, 0, 9);
        for (int number = 0; number < 3; number++) {
            x.find(0, 2, number, 0, 0);
            x.find(1, 3, number, 0, 0);
        }
        x.like(0, 3, 5);
        x.like(0, 2, 0);
        x.like(1, 2, 5);
        x.like(1, 3, 0);
        CheckHelper.due("0 gains 9, 1 loses 9", 2, () -> x.swap(0, 1));
        CheckHelper.due("0 gains 9, 1 loses 9", 2, () -> x.swap(0, 1));
        x.like(0, 3, 0);
        CheckHelper.due("1 gains 10, 0 nothing", 1, () -> x.swap(2, 3));
        CheckHelper.due("1 gains 10, 0 nothing", 1, () -> x.swap(2, 3));
        x.like(0, 3, 5);
        CheckHelper.due("grudge of 0", 2, () -> x.grudge(0, 1));
        CheckHelper.due("grudge of 1", 2, () -> x.grudge(1, 0));
        return x;
    }

    // ---- a week that can be divided by 5

    private static void grudgeIsLessInWeeksDividedBy5() {
        ThimbleSwap x = MuseumHelper.unequalPair();
        MuseumHelper.holdGrudge(x, 9);
        int due = 9;
        for (int week = 0; week <= 60; week++) {
            due = Math.max(due - (week % 5 == 0 ? 1 : 0), 0);
            x.pass(1);
            CheckHelper.due("grudge behind the week " + week, due, () -> x.grudge(0, 1));
        }
        CheckHelper.due("grudge of 1", 0, () -> x.grudge(1, 0));
    }

    private static void grudgeIsLessByEachOfManyWeeks() {
        ThimbleSwap x = MuseumHelper.unequalPair();
        MuseumHelper.holdGrudge(x, 9);
        x.pass(40);
        CheckHelper.due("behind the weeks 0 to 39", 1, () -> x.grudge(0, 1));
        x.pass(1);
        CheckHelper.due("behind the week 40", 0, () -> x.grudge(0, 1));
        ThimbleSwap y = MuseumHelper.unequalPair();
        MuseumHelper.holdGrudge(y, 9);
        y.pass(60);
        CheckHelper.due("behind 12 weeks that can be divided", 0, () -> y.grudge(0, 1));
    }

    /** All 42 grudges are 1: in a swap of one of lesser state for one of greater state only the one gains. */
    private static void eachGrudgeIsLess() {
        ThimbleSwap x = MuseumHelper.museum(7);
        for (int c = 0; c < 7; c++) {
            x.find(c, 0, 0, 0, c);
        }
        for (int c = 0; c < 7; c++) {
            x.find(c, 1, 0, 0, 9 - c);
        }
        for (int low = 0; low < 7; low++) {
            for (int high = low + 1; high < 7; high++) {
                x.swap(low, high);
                x.swap(7 + high, 7 + low);
            }
        }
        dueAllGrudges(x, 1);
        x.pass(1);
        dueAllGrudges(x, 0);
    }

    private static void dueAllGrudges(ThimbleSwap x, int want) {
        for (int c = 0; c < 7; c++) {
            for (int other = 0; other < 7; other++) {
                int one = c;
                int two = other;
                CheckHelper.due("grudge of " + one + " against " + two, one == two ? 0 : want,
                    () -> x.grudge(one, two));
            }
            int all = c;
            CheckHelper.due("all grudges of " + all, 6 * want, () -> x.collector(all, 5));
        }
    }

    // ---- lent till this week, or an earlier one

    private static void homeBehindTheWeekTillWhichItIsLent() {
        for (int weeks = 1; weeks <= 30; weeks++) {
            int lentFor = weeks;
            ThimbleSwap x = MuseumHelper.museum(1);
            x.find(0, 0, 0, 0, 9);
            x.pass(2);
            CheckHelper.due("till", 2 + lentFor, () -> x.lend(0, lentFor));
            CheckHelper.due("the weeks ahead of it", 0, () -> x.pass(lentFor));
            CheckHelper.due("the week", 2 + lentFor, () -> x.count(0));
            CheckHelper.due("lent still", 2 + lentFor, () -> x.thimble(0, 5));
            CheckHelper.due("lent ones", 1, () -> x.count(3) * x.collector(0, 1) * x.shows(0));
            CheckHelper.due("this week", 1, () -> x.pass(1));
            CheckHelper.due("home", -1, () -> x.thimble(0, 5));
            CheckHelper.due("lent ones", 0, () -> x.count(3) + x.collector(0, 1) + x.shows(0));
        }
    }

    private static void homeInManyWeeksAtOnce() {
        ThimbleSwap x = MuseumHelper.full();
        for (int t = 0; t < 36; t++) {
            x.lend(t, 1 + t % 30);
        }
        CheckHelper.due("all are lent", 36, () -> x.count(3));
        CheckHelper.due("none in the week 0", 0, () -> x.pass(1));
        CheckHelper.due("two in the week 1", 2, () -> x.pass(1));
        CheckHelper.due("ten in the weeks 2 to 6", 10, () -> x.pass(5));
        CheckHelper.due("one in the week 7", 1, () -> x.pass(1));
        CheckHelper.due("all but one in the weeks to 29", 22, () -> x.pass(22));
        CheckHelper.due("the last in the week 30", 1, () -> x.pass(60));
        CheckHelper.due("none is lent", 0, () -> x.count(3));
        CheckHelper.due("none comes twice", 0, () -> x.pass(60));
    }

    private static void homeStaysHome() {
        ThimbleSwap x = MuseumHelper.museum(1);
        x.find(0, 0, 0, 0, 9);
        CheckHelper.due("never lent", 0, () -> x.pass(60));
        CheckHelper.due("state of one that was never lent", 9, () -> x.thimble(0, 3));
        x.lend(0, 30);
        CheckHelper.due("comes home", 1, () -> x.pass(60));
        CheckHelper.due("is home", 0, () -> x.pass(60));
        CheckHelper.due("state of one that was lent once", 8, () -> x.thimble(0, 3));
    }

    // ---- lent for 4 weeks or more

    private static void stateIsLessFrom4WeeksOn() {
        for (int weeks = 1; weeks <= 30; weeks++) {
            int lentFor = weeks;
            ThimbleSwap x = MuseumHelper.museum(1);
            x.find(0, 0, 0, 0, 9);
            x.lend(0, lentFor);
            x.pass(lentFor);
            CheckHelper.due("state while it is lent", 9, () -> x.thimble(0, 3));
            x.pass(1);
            CheckHelper.due("state, lent for " + lentFor, lentFor < 4 ? 9 : 8, () -> x.thimble(0, 3));
        }
    }

    private static void stateGoesByWhatLendWasTold() {
        ThimbleSwap x = MuseumHelper.museum(1);
        x.find(0, 0, 0, 0, 9);
        x.lend(0, 3);
        x.pass(60);
        CheckHelper.due("lent for 3, and 60 weeks have passed", 9, () -> x.thimble(0, 3));
        x.lend(0, 4);
        x.pass(5);
        CheckHelper.due("lent for 4 then", 8, () -> x.thimble(0, 3));
        x.lend(0, 3);
        x.pass(4);
        CheckHelper.due("lent for 3 again", 8, () -> x.thimble(0, 3));
    }

    // ---- a state that is 1 less (at least 0)

    private static void stateIs0AtLeast() {
        for (int state = 0; state <= 9; state++) {
            int before = state;
            ThimbleSwap x = MuseumHelper.museum(1);
            x.find(0, 0, 0, 0, before);
            x.lend(0, 30);
            CheckHelper.due("comes home", 1, () -> x.pass(31));
            CheckHelper.due("state behind " + before, Math.max(before - 1, 0), () -> x.thimble(0, 3));
            CheckHelper.due("worth", 5 + Math.max(before - 1, 0), () -> x.collector(0, 3));
        }
    }

    private static void stateFallsTo0AndStays() {
        ThimbleSwap x = MuseumHelper.museum(1);
        x.find(0, 0, 0, 0, 2);
        for (int due : new int[] {1, 0, 0, 0}) {
            x.lend(0, 4);
            CheckHelper.due("comes home", 1, () -> x.pass(5));
            CheckHelper.due("state", due, () -> x.thimble(0, 3));
        }
    }

    // ---- the week

    private static void weekIsOneGreaterByEach() {
        ThimbleSwap x = new ThimbleSwap();
        for (int week = 1; week <= 12; week++) {
            int due = week;
            x.pass(1);
            CheckHelper.due("the week", due, () -> x.count(0));
        }
    }

    /** As many calls as an object is used for, each with as many weeks as can be. */
    private static void weekIsGreatestBehindAllCalls() {
        ThimbleSwap x = MuseumHelper.museum(1);
        x.find(0, 0, 0, 0, 9);
        for (int i = 0; i < 500; i++) {
            x.pass(60);
        }
        CheckHelper.due("the week", 30000, () -> x.count(0));
        CheckHelper.due("lent till", 30030, () -> x.lend(0, 30));
        CheckHelper.due("weeks ahead of it", 0, () -> x.pass(30));
        CheckHelper.due("the week till which it is lent", 1, () -> x.pass(1));
    }
}
