import java.math.BigInteger;
import java.util.ArrayList;
import java.util.List;

/** The checksum: each number of its row, in its order, and how it wraps around as a 64-bit integer. */
public final class DigestTest {
    private DigestTest() {
    }

    public static void main(String[] args) {
        CheckHelper.runAll(DigestTest.class);
    }

    /** What the row is as the document says it, asked of the museum itself. */
    private static List<Integer> row(ThimbleSwap x) {
        List<Integer> row = new ArrayList<>();
        int collectors = x.count(1);
        int thimbles = x.count(2);
        for (int what = 0; what <= 6; what++) {
            row.add(x.count(what));
        }
        for (int c = 0; c < collectors; c++) {
            for (int what = 0; what <= 6; what++) {
                row.add(x.collector(c, what));
            }
            for (int set = 0; set < 8; set++) {
                int liking = x.like(c, set, 0);
                x.like(c, set, liking);
                row.add(liking);
            }
            for (int other = 0; other < collectors; other++) {
                row.add(x.grudge(c, other));
            }
        }
        for (int t = 0; t < thimbles; t++) {
            for (int what = 0; what <= 5; what++) {
                row.add(x.thimble(t, what));
            }
        }
        return row;
    }

    /** Without any wrap-around. */
    private static BigInteger wholeDigest(List<Integer> row) {
        BigInteger d = BigInteger.valueOf(761);
        for (int number : row) {
            d = d.multiply(BigInteger.valueOf(31)).add(BigInteger.valueOf(number));
        }
        return d;
    }

    /** From -2 to the 63rd to 2 to the 63rd less 1. */
    private static long wrapped(BigInteger whole) {
        BigInteger all = BigInteger.ONE.shiftLeft(64);
        BigInteger rest = whole.mod(all);
        boolean isNegative = rest.compareTo(BigInteger.ONE.shiftLeft(63)) >= 0;
        return (isNegative ? rest.subtract(all) : rest).longValueExact();
    }

    private static void dueByRow(String told, ThimbleSwap x) {
        long want = wrapped(wholeDigest(row(x)));
        CheckHelper.due(told, want, x::digest);
        CheckHelper.due(told + ", asked again", want, x::digest);
    }

    private static void withoutWrapAround() {
        ThimbleSwap x = new ThimbleSwap();
        CheckHelper.due("week 0", 20937099338471L, x::digest);
        x.pass(1);
        CheckHelper.due("week 1", 20937986842152L, x::digest);
        x.pass(59);
        CheckHelper.due("week 60", 20990349559331L, x::digest);
    }

    private static void wrapsAroundToBelow0() {
        CheckHelper.due("one collector", -1300386935315452154L, () -> MuseumHelper.museum(1).digest());
        CheckHelper.due("three collectors", -5613765726851911612L, () -> MuseumHelper.museum(3).digest());
    }

    private static void wrapsAroundToAbove0() {
        CheckHelper.due("two collectors", 2151307570419981029L, () -> MuseumHelper.museum(2).digest());
        CheckHelper.due("six collectors", 2449703688641022689L, () -> MuseumHelper.museum(6).digest());
    }

    private static void wrapsAroundManyTimes() {
        CheckHelper.due("seven collectors", -8386852247637722176L, () -> MuseumHelper.museum(7).digest());
    }

    private static void minus1OfAThimbleAtHomeIsTakenAway() {
        ThimbleSwap x = MuseumHelper.museum(1);
        x.find(0, 7, 5, 19, 9);
        CheckHelper.due("at home", 6533600649792083220L, x::digest);
        x.lend(0, 30);
        CheckHelper.due("lent", -3152309080785117741L, x::digest);
    }

    private static void rowsOfSmallMuseums() {
        for (int collectors = 0; collectors <= 7; collectors++) {
            dueByRow(collectors + " collectors", MuseumHelper.museum(collectors));
        }
        dueByRow("a pair", MuseumHelper.equalPair());
        dueByRow("a pair with a grudge", MuseumHelper.grudgingPair(2));
        dueByRow("three with a grudge of 9", MuseumHelper.probe(9, 19));
    }

    private static void rowOfAFullMuseum() {
        ThimbleSwap x = MuseumHelper.full();
        dueByRow("full", x);
        BigInteger whole = wholeDigest(row(MuseumHelper.full()));
        CheckHelper.due("it wraps around far more than once", 1, () -> whole.bitLength() > 1000 ? 1 : 0);
    }

    private static void rowOfAFullMuseumBehindCalls() {
        ThimbleSwap x = MuseumHelper.full();
        x.swap(1, 35);
        x.swap(34, 35);
        x.fair(10);
        x.like(6, 7, 5);
        x.lend(35, 30);
        x.lend(0, 1);
        x.pass(2);
        dueByRow("full, behind calls", x);
    }

    private static void eachChangeIsSeen() {
        ThimbleSwap x = MuseumHelper.crossedPair(3);
        List<Long> seen = new ArrayList<>();
        dueNew(x, seen, "as made");
        x.pass(1);
        dueNew(x, seen, "a week later");
        x.like(2, 7, 0);
        dueNew(x, seen, "a liking less");
        x.like(2, 7, 1);
        x.like(2, 6, 0);
        dueNew(x, seen, "another liking less");
        x.like(2, 6, 1);
        x.swap(0, 18);
        dueNew(x, seen, "a swap");
        x.swap(0, 18);
        dueNew(x, seen, "a swap that is refused");
        x.lend(0, 2);
        dueNew(x, seen, "lent");
        x.pass(3);
        dueNew(x, seen, "home again");
        x.join();
        dueNew(x, seen, "a collector more");
    }

    private static void dueNew(ThimbleSwap x, List<Long> seen, String told) {
        long digest = x.digest();
        CheckHelper.due(told + ": as seen before", 0, () -> seen.contains(digest) ? 1 : 0);
        seen.add(digest);
    }

    private static void sameCallsTellTheSame() {
        CheckHelper.due("two museums made alike", MuseumHelper.full().digest(), () -> MuseumHelper.full().digest());
    }
}
