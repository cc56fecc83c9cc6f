import java.util.ArrayList;
import java.util.List;

/**
 * A method that throws an exception changes nothing: of two museums alike, one is given the call that throws.
 * Both must tell the same then, and go on alike, so that what is not told outright has not changed either.
 */
public final class NothingChangedTest {
    private static final Class<?> INDEX = IndexOutOfBoundsException.class;
    private static final Class<?> ARGUMENT = IllegalArgumentException.class;
    private static final Class<?> STATE = IllegalStateException.class;

    /** A call that is due to throw. */
    private interface WrongCall {
        void on(ThimbleSwap x);
    }

    private NothingChangedTest() {
    }

    public static void main(String[] args) {
        CheckHelper.runAll(NothingChangedTest.class);
    }

    /** Thimble 5 is lent for 3 weeks, 6 for 4; there are grudges, swaps of both kinds, and one left for fair(). */
    private static ThimbleSwap busy() {
        ThimbleSwap x = MuseumHelper.grudgingPair(1);
        x.join();
        x.find(2, 4, 4, 4, 4);
        x.find(2, 5, 5, 5, 5);
        x.find(2, 0, 2, 0, 5);
        x.like(2, 0, 0);
        x.like(2, 2, 5);
        x.like(2, 4, 3);
        x.pass(6);
        x.swap(1, 3);
        x.swap(1, 3);
        x.like(0, 3, 5);
        x.swap(4, 5);
        x.lend(5, 3);
        x.lend(6, 4);
        return x;
    }

    private static ThimbleSwap busyFull() {
        ThimbleSwap x = MuseumHelper.full();
        x.pass(6);
        x.swap(0, 1);
        x.swap(35, 34);
        x.fair(1);
        x.lend(33, 3);
        x.lend(34, 4);
        return x;
    }

    private static void dueUnchanged(Class<?> want, WrongCall call) {
        ThimbleSwap plain = busy();
        ThimbleSwap tried = busy();
        dueThrow(want, tried, call);
        dueAlike(told(plain), told(tried));
        dueAlike(swapsTold(plain), swapsTold(tried));
        dueAlike(goOn(plain), goOn(tried));
    }

    private static void dueUnchangedFull(Class<?> want, WrongCall call) {
        ThimbleSwap plain = busyFull();
        ThimbleSwap tried = busyFull();
        dueThrow(want, tried, call);
        dueAlike(told(plain), told(tried));
        dueAlike(goOn(plain), goOn(tried));
    }

    private static void dueThrow(Class<?> want, ThimbleSwap x, WrongCall call) {
        CheckHelper.countCheck();
        try {
            call.on(x);
            CheckHelper.tellWrong("nothing was thrown, due is " + want.getName());
        } catch (RuntimeException e) {
            if (e.getClass() != want) {
                CheckHelper.tellWrong("threw " + e + ", due is " + want.getName());
            }
        }
    }

    private static void dueAlike(List<Number> plain, List<Number> tried) {
        CheckHelper.countCheck();
        if (!plain.equals(tried)) {
            CheckHelper.tellWrong("it told " + tried + " behind the call that threw, due is " + plain);
        }
    }

    /** Everything that is told of collectors and thimbles, and of the museum. */
    private static List<Number> told(ThimbleSwap x) {
        List<Number> told = new ArrayList<>();
        for (int what = 0; what <= 6; what++) {
            told.add(x.count(what));
        }
        for (int c = 0; c < x.count(1); c++) {
            for (int what = 0; what <= 6; what++) {
                told.add(x.collector(c, what));
            }
            for (int other = 0; other < x.count(1); other++) {
                told.add(x.grudge(c, other));
            }
        }
        for (int t = 0; t < x.count(2); t++) {
            for (int what = 3; what <= 5; what++) {
                told.add(x.thimble(t, what));
            }
        }
        for (int set = 0; set < 8; set++) {
            told.add(x.shows(set));
            told.add(x.lacks(set));
            told.add(x.finest(set));
        }
        told.add(x.mean());
        told.add(x.digest());
        return told;
    }

    /** What the swaps of a small museum would bring. */
    private static List<Number> swapsTold(ThimbleSwap x) {
        List<Number> told = new ArrayList<>();
        for (int t = 0; t < x.count(2); t++) {
            for (int other = 0; other < x.count(2); other++) {
                if (x.thimble(t, 4) != x.thimble(other, 4)) {
                    told.add(x.gains(t, other));
                }
            }
        }
        for (int c = 0; c < x.count(1); c++) {
            told.add(x.best(c, (c + 1) % x.count(1)));
        }
        return told;
    }

    /** What comes then: weeks, in which all that are lent come home, and swaps. */
    private static List<Number> goOn(ThimbleSwap x) {
        List<Number> told = new ArrayList<>();
        for (int i = 0; i < 6; i++) {
            told.add(x.pass(1));
            told.add(x.digest());
        }
        told.add(x.lend(0, 5));
        told.add(x.pass(30));
        told.add(x.digest());
        told.add(x.swap(0, 2));
        told.add(x.fair(3));
        told.add(x.digest());
        if (x.count(1) < 7) {
            told.add(x.join());
        }
        if (x.count(2) < 36) {
            told.add(x.find(0, 1, 2, 3, 4));
            told.add(x.find(1, 1, 2, 3, 4));
        }
        told.add(x.digest());
        return told;
    }

    private static void join() {
        dueUnchangedFull(STATE, x -> x.join());
    }

    private static void findNoCollector() {
        dueUnchanged(INDEX, x -> x.find(3, 1, 1, 1, 1));
        dueUnchanged(INDEX, x -> x.find(-1, 1, 1, 1, 1));
    }

    private static void findWrongSet() {
        dueUnchanged(ARGUMENT, x -> x.find(0, 8, 1, 1, 1));
        dueUnchanged(ARGUMENT, x -> x.find(0, -1, 1, 1, 1));
    }

    private static void findWrongNumber() {
        dueUnchanged(ARGUMENT, x -> x.find(0, 1, 6, 1, 1));
        dueUnchanged(ARGUMENT, x -> x.find(0, 1, -1, 1, 1));
    }

    private static void findWrongHallmark() {
        dueUnchanged(ARGUMENT, x -> x.find(0, 1, 1, 20, 1));
        dueUnchanged(ARGUMENT, x -> x.find(0, 1, 1, -1, 1));
    }

    private static void findWrongState() {
        dueUnchanged(ARGUMENT, x -> x.find(0, 1, 1, 1, 10));
        dueUnchanged(ARGUMENT, x -> x.find(0, 1, 1, 1, -1));
    }

    private static void findWith36() {
        dueUnchangedFull(STATE, x -> x.find(6, 7, 5, 19, 9));
        dueUnchangedFull(STATE, x -> x.find(0, 0, 0, 0, 0));
    }

    private static void likeNoCollector() {
        dueUnchanged(INDEX, x -> x.like(3, 0, 5));
        dueUnchanged(INDEX, x -> x.like(-1, 0, 5));
    }

    private static void likeNoSet() {
        dueUnchanged(INDEX, x -> x.like(0, 8, 5));
        dueUnchanged(INDEX, x -> x.like(2, -1, 5));
    }

    private static void likeWrongLiking() {
        dueUnchanged(ARGUMENT, x -> x.like(0, 0, 6));
        dueUnchanged(ARGUMENT, x -> x.like(0, 0, -1));
    }

    private static void collectorNoCollectorOrWhat() {
        dueUnchanged(INDEX, x -> x.collector(3, 0));
        dueUnchanged(INDEX, x -> x.collector(0, 7));
    }

    private static void grudgeNoCollector() {
        dueUnchanged(INDEX, x -> x.grudge(3, 0));
        dueUnchanged(INDEX, x -> x.grudge(0, 3));
    }

    private static void thimbleNoThimbleOrWhat() {
        dueUnchanged(INDEX, x -> x.thimble(9, 0));
        dueUnchanged(INDEX, x -> x.thimble(0, 6));
    }

    private static void gainsNoThimble() {
        dueUnchanged(INDEX, x -> x.gains(9, 0));
        dueUnchanged(INDEX, x -> x.gains(0, 9));
    }

    private static void gainsOfTheSame() {
        dueUnchanged(ARGUMENT, x -> x.gains(0, 3));
    }

    private static void swapNoThimble() {
        dueUnchanged(INDEX, x -> x.swap(9, 0));
        dueUnchanged(INDEX, x -> x.swap(0, 9));
    }

    private static void swapOfTheSame() {
        dueUnchanged(ARGUMENT, x -> x.swap(0, 3));
        dueUnchanged(ARGUMENT, x -> x.swap(2, 2));
    }

    /** Both ways round, for a lent one and of a lent one: with grudges and counts as they were. */
    private static void swapOfALentOne() {
        dueUnchanged(STATE, x -> x.swap(5, 0));
        dueUnchanged(STATE, x -> x.swap(0, 5));
        dueUnchanged(STATE, x -> x.swap(4, 5));
        dueUnchanged(STATE, x -> x.swap(5, 6));
        dueUnchangedFull(STATE, x -> x.swap(33, 34));
    }

    private static void bestNoCollector() {
        dueUnchanged(INDEX, x -> x.best(3, 0));
        dueUnchanged(INDEX, x -> x.best(0, 3));
    }

    private static void bestOfTheSame() {
        dueUnchanged(ARGUMENT, x -> x.best(1, 1));
    }

    private static void ringNoThimble() {
        dueUnchanged(INDEX, x -> x.ring(9, 2, 6));
        dueUnchanged(INDEX, x -> x.ring(0, 9, 6));
        dueUnchanged(INDEX, x -> x.ring(0, 2, 9));
    }

    private static void ringOfTheSame() {
        dueUnchanged(ARGUMENT, x -> x.ring(0, 3, 6));
        dueUnchanged(ARGUMENT, x -> x.ring(6, 0, 3));
        dueUnchanged(ARGUMENT, x -> x.ring(0, 6, 3));
    }

    /** In both museums there is something that fair() would swap. */
    private static void fairWrongMany() {
        CheckHelper.due("something to swap", 1, () -> busy().fair(1));
        dueUnchanged(ARGUMENT, x -> x.fair(0));
        dueUnchanged(ARGUMENT, x -> x.fair(11));
        dueUnchanged(ARGUMENT, x -> x.fair(-1));
    }

    private static void lendNoThimble() {
        dueUnchanged(INDEX, x -> x.lend(9, 5));
        dueUnchanged(INDEX, x -> x.lend(-1, 5));
    }

    private static void lendWrongWeeks() {
        dueUnchanged(ARGUMENT, x -> x.lend(0, 0));
        dueUnchanged(ARGUMENT, x -> x.lend(0, 31));
        dueUnchanged(ARGUMENT, x -> x.lend(5, 31));
        dueUnchanged(ARGUMENT, x -> x.lend(6, 0));
    }

    /** For how long it is lent is told by nothing but the state in which it comes home. */
    private static void lendOneThatIsLent() {
        dueUnchanged(STATE, x -> x.lend(5, 30));
        dueUnchanged(STATE, x -> x.lend(5, 4));
        dueUnchanged(STATE, x -> x.lend(6, 3));
        dueUnchanged(STATE, x -> x.lend(6, 1));
    }

    private static void showsLacksFinestNoSet() {
        dueUnchanged(INDEX, x -> x.shows(8));
        dueUnchanged(INDEX, x -> x.lacks(8));
        dueUnchanged(INDEX, x -> x.finest(8));
        dueUnchanged(INDEX, x -> x.shows(-1));
        dueUnchanged(INDEX, x -> x.lacks(-1));
        dueUnchanged(INDEX, x -> x.finest(-1));
    }

    private static void passWrongWeeks() {
        dueUnchanged(ARGUMENT, x -> x.pass(0));
        dueUnchanged(ARGUMENT, x -> x.pass(61));
        dueUnchanged(ARGUMENT, x -> x.pass(-1));
    }

    private static void countNoWhat() {
        dueUnchanged(INDEX, x -> x.count(7));
        dueUnchanged(INDEX, x -> x.count(-1));
    }

    /** Of the calls that only look, none changes anything either. */
    private static void callsThatOnlyLook() {
        ThimbleSwap plain = busy();
        ThimbleSwap looked = busy();
        told(looked);
        swapsTold(looked);
        looked.ring(0, 2, 6);
        looked.best(1, 0);
        dueAlike(goOn(plain), goOn(looked));
    }
}
