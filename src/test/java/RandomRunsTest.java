/** Runs of calls with arguments drawn from a fixed row of numbers: the program must answer as the model does. */
public final class RandomRunsTest {
    private static final int RUNS = 400;
    // Each is followed by digest() and mean(): an object is used for at most 512 calls.
    private static final int CALLS = 156;
    private static final String[] NAMES = {"join", "find", "like", "collector", "grudge", "thimble", "gains", "swap",
        "best", "ring", "fair", "lend", "shows", "lacks", "finest", "pass", "count"};

    private static final int SWAP = 7;
    private static final int FAIR = 10;

    private static long drawn = 1;
    private static final int[] answered = new int[NAMES.length];
    private static final int[] thrown = new int[NAMES.length];
    private static final int[] swapAnswers = new int[4];

    private RandomRunsTest() {
    }

    private static int draw(int bound) {
        drawn = drawn * 6364136223846793005L + 1442695040888963407L;
        return (int) ((drawn >>> 33) % bound);
    }

    /** A number from low to high, now and then one just outside or far away. */
    private static int drawFrom(int low, int high) {
        int kind = draw(60);
        if (kind == 0) {
            return low - 1;
        }
        if (kind == 1) {
            return high + 1;
        }
        if (kind == 2) {
            return draw(2) == 0 ? Integer.MIN_VALUE : Integer.MAX_VALUE;
        }
        return low + draw(Math.max(high - low + 1, 1));
    }

    public static void main(String[] args) {
        for (int run = 0; run < RUNS; run++) {
            drawn = run + 1;
            run(run);
        }
        for (int i = 0; i < NAMES.length; i++) {
            System.out.println(NAMES[i] + ": " + answered[i] + " answers, " + thrown[i] + " exceptions");
            if (answered[i] == 0 || thrown[i] == 0) {
                CheckHelper.tellWrong("the runs do not use " + NAMES[i] + " in both ways");
            }
        }
        for (int answer = 0; answer < 4; answer++) {
            System.out.println("swap answered " + answer + ": " + swapAnswers[answer] + " times");
            if (swapAnswers[answer] == 0) {
                CheckHelper.tellWrong("no swap answered " + answer);
            }
        }
        CheckHelper.end();
    }

    private static void run(int run) {
        ThimbleSwap x = new ThimbleSwap();
        ModelHelper m = new ModelHelper();
        int first = 2 + draw(6);
        for (int i = 0; i < first && i < 7; i++) {
            x.join();
            m.join();
        }
        // Few sets and hallmarks in some runs, so that whole sets and duplicates come about.
        int sets = 1 + draw(8);
        int hallmarks = 1 + draw(20);
        int found = draw(30);
        for (int i = 0; i < found; i++) {
            int[] a = {draw(first), draw(sets), draw(6), draw(hallmarks), draw(10)};
            x.find(a[0], a[1], a[2], a[3], a[4]);
            m.find(a[0], a[1], a[2], a[3], a[4]);
        }
        for (int i = 0; i < CALLS; i++) {
            int call = drawCall();
            int[] a = arguments(call, m);
            String got = told(() -> answerOf(x, call, a), call);
            String want = due(m, call, a);
            CheckHelper.countCheck();
            if (!got.equals(want)) {
                CheckHelper.tellWrong("run " + run + ", call " + i + ": " + NAMES[call]
                    + java.util.Arrays.toString(a) + " answered " + got + ", due is " + want);
            }
            if (x.digest() != m.digest() || x.mean() != m.mean()) {
                CheckHelper.tellWrong("run " + run + ", call " + i + ": the digest or the mean behind " + NAMES[call]
                    + java.util.Arrays.toString(a) + " is not as due");
                return;
            }
        }
    }

    /** fair() leaves nothing to swap, so that most of its turns, and some more, are given to swap(). */
    private static int drawCall() {
        int call = draw(NAMES.length + 5);
        boolean isSwap = call >= NAMES.length || (call == FAIR && draw(5) != 0);
        return isSwap ? SWAP : call;
    }

    private static int[] arguments(int call, ModelHelper m) {
        int lastCollector = m.collectors.size() - 1;
        int lastThimble = m.thimbles.size() - 1;
        switch (NAMES[call]) {
            case "join": return new int[0];
            case "find": return new int[] {drawFrom(0, lastCollector), drawFrom(0, 7), drawFrom(0, 5),
                drawFrom(0, 19), drawFrom(0, 9)};
            case "like": return new int[] {drawFrom(0, lastCollector), drawFrom(0, 7), drawFrom(0, 5)};
            case "collector": return new int[] {drawFrom(0, lastCollector), drawFrom(0, 6)};
            case "grudge": case "best": return new int[] {drawFrom(0, lastCollector), drawFrom(0, lastCollector)};
            case "thimble": return new int[] {drawFrom(0, lastThimble), drawFrom(0, 5)};
            case "gains": case "swap": return new int[] {drawFrom(0, lastThimble), drawFrom(0, lastThimble)};
            case "ring": return new int[] {drawFrom(0, lastThimble), drawFrom(0, lastThimble),
                drawFrom(0, lastThimble)};
            case "fair": return new int[] {drawFrom(1, draw(3) == 0 ? 10 : 1)};
            case "lend": return new int[] {drawFrom(0, lastThimble), drawFrom(1, draw(2) == 0 ? 30 : 5)};
            case "pass": return new int[] {drawFrom(1, draw(6) == 0 ? 60 : 2)};
            case "count": return new int[] {drawFrom(0, 6)};
            default: return new int[] {drawFrom(0, 7)};
        }
    }

    private static String told(CheckHelper.Call call, int name) {
        try {
            String answer = "" + call.answer();
            answered[name]++;
            return answer;
        } catch (RuntimeException e) {
            thrown[name]++;
            return e.getClass().getSimpleName();
        }
    }

    private static long answerOf(ThimbleSwap x, int call, int[] a) {
        switch (NAMES[call]) {
            case "join": return x.join();
            case "find": return x.find(a[0], a[1], a[2], a[3], a[4]);
            case "like": return x.like(a[0], a[1], a[2]);
            case "collector": return x.collector(a[0], a[1]);
            case "grudge": return x.grudge(a[0], a[1]);
            case "thimble": return x.thimble(a[0], a[1]);
            case "gains": return x.gains(a[0], a[1]);
            case "swap": {
                int answer = x.swap(a[0], a[1]);
                swapAnswers[answer]++;
                return answer;
            }
            case "best": return x.best(a[0], a[1]);
            case "ring": return x.ring(a[0], a[1], a[2]);
            case "fair": return x.fair(a[0]);
            case "lend": return x.lend(a[0], a[1]);
            case "shows": return x.shows(a[0]);
            case "lacks": return x.lacks(a[0]);
            case "finest": return x.finest(a[0]);
            case "pass": return x.pass(a[0]);
            default: return x.count(a[0]);
        }
    }

    private static String due(ModelHelper m, int call, int[] a) {
        String refusal = refusal(m, call, a);
        return refusal.isEmpty() ? "" + answerOf(m, call, a) : refusal;
    }

    private static int answerOf(ModelHelper m, int call, int[] a) {
        switch (NAMES[call]) {
            case "join": return m.join();
            case "find": return m.find(a[0], a[1], a[2], a[3], a[4]);
            case "like": return m.like(a[0], a[1], a[2]);
            case "collector": return m.collector(a[0], a[1]);
            case "grudge": return m.grudge(a[0], a[1]);
            case "thimble": return m.thimble(a[0], a[1]);
            case "gains": return m.gains(a[0], a[1]);
            case "swap": return m.swap(a[0], a[1]);
            case "best": return m.best(a[0], a[1]);
            case "ring": return m.ring(a[0], a[1], a[2]);
            case "fair": return m.fair(a[0]);
            case "lend": return m.lend(a[0], a[1]);
            case "shows": return m.shows(a[0]);
            case "lacks": return m.lacks(a[0]);
            case "finest": return m.finest(a[0]);
            case "pass": return m.pass(a[0]);
            default: return m.count(a[0]);
        }
    }

    private static boolean in(int number, int low, int high) {
        return low <= number && number <= high;
    }

    /** The exception that is due, or an empty text. */
    private static String refusal(ModelHelper m, int call, int[] a) {
        String index = "IndexOutOfBoundsException";
        String argument = "IllegalArgumentException";
        String state = "IllegalStateException";
        int lastCollector = m.collectors.size() - 1;
        int lastThimble = m.thimbles.size() - 1;
        switch (NAMES[call]) {
            case "join":
                return lastCollector == 6 ? state : "";
            case "find":
                return !in(a[0], 0, lastCollector) ? index
                    : !in(a[1], 0, 7) || !in(a[2], 0, 5) || !in(a[3], 0, 19) || !in(a[4], 0, 9) ? argument
                    : lastThimble == 35 ? state : "";
            case "like":
                return !in(a[0], 0, lastCollector) || !in(a[1], 0, 7) ? index : !in(a[2], 0, 5) ? argument : "";
            case "collector":
                return !in(a[0], 0, lastCollector) || !in(a[1], 0, 6) ? index : "";
            case "grudge":
                return !in(a[0], 0, lastCollector) || !in(a[1], 0, lastCollector) ? index : "";
            case "best":
                return !in(a[0], 0, lastCollector) || !in(a[1], 0, lastCollector) ? index
                    : a[0] == a[1] ? argument : "";
            case "thimble":
                return !in(a[0], 0, lastThimble) || !in(a[1], 0, 5) ? index : "";
            case "gains": case "swap":
                return !in(a[0], 0, lastThimble) || !in(a[1], 0, lastThimble) ? index
                    : m.thimbles.get(a[0]).owner == m.thimbles.get(a[1]).owner ? argument
                    : NAMES[call].equals("swap") && (m.thimbles.get(a[0]).lent || m.thimbles.get(a[1]).lent) ? state
                    : "";
            case "ring":
                return !in(a[0], 0, lastThimble) || !in(a[1], 0, lastThimble) || !in(a[2], 0, lastThimble) ? index
                    : java.util.Set.copyOf(java.util.List.of(m.thimbles.get(a[0]).owner.index,
                        m.thimbles.get(a[1]).owner.index, m.thimbles.get(a[2]).owner.index)).size() < 3 ? argument
                    : "";
            case "fair":
                return !in(a[0], 1, 10) ? argument : "";
            case "lend":
                return !in(a[0], 0, lastThimble) ? index : !in(a[1], 1, 30) ? argument
                    : m.thimbles.get(a[0]).lent ? state : "";
            case "pass":
                return !in(a[0], 1, 60) ? argument : "";
            case "count":
                return !in(a[0], 0, 6) ? index : "";
            default:
                return !in(a[0], 0, 7) ? index : "";
        }
    }
}
