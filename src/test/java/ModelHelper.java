import java.util.ArrayList;
import java.util.HashMap;
import java.util.HashSet;
import java.util.List;
import java.util.Map;
import java.util.Set;

/**
 * The document said a second time, with lists, maps and a real exchange that is taken back,
 * so that a slip in the program does not stand here too. It expects arguments that are right.
 */
final class ModelHelper {
    static final class Thimble {
        int set;
        int number;
        int hallmark;
        int state;
        Collector owner;
        boolean lent;
        int till;
        int weeks;
    }

    static final class Collector {
        final int index;
        final Map<Integer, Integer> likings = new HashMap<>();
        final Map<Collector, Integer> grudges = new HashMap<>();
        int swaps;

        Collector(int index) {
            this.index = index;
        }

        int liking(int set) {
            return likings.getOrDefault(set, 1);
        }

        int grudge(Collector other) {
            return grudges.getOrDefault(other, 0);
        }
    }

    final List<Thimble> thimbles = new ArrayList<>();
    final List<Collector> collectors = new ArrayList<>();
    int week;
    int agreed;
    int refused;

    int join() {
        collectors.add(new Collector(collectors.size()));
        return collectors.size() - 1;
    }

    int find(int collector, int set, int number, int hallmark, int state) {
        Thimble t = new Thimble();
        t.set = set;
        t.number = number;
        t.hallmark = hallmark;
        t.state = state;
        t.owner = collectors.get(collector);
        thimbles.add(t);
        return thimbles.size() - 1;
    }

    int like(int collector, int set, int liking) {
        Collector c = collectors.get(collector);
        int before = c.liking(set);
        c.likings.put(set, liking);
        return before;
    }

    int worth(Collector c) {
        Set<Integer> hallmarks = new HashSet<>();
        Map<Integer, Map<Integer, Integer>> sets = new HashMap<>();
        for (Thimble t : thimbles) {
            if (t.owner == c) {
                hallmarks.add(t.hallmark);
                sets.computeIfAbsent(t.set, s -> new HashMap<>()).merge(t.number, t.state, Integer::max);
            }
        }
        int worth = 3 * hallmarks.size();
        for (Map.Entry<Integer, Map<Integer, Integer>> set : sets.entrySet()) {
            int n = set.getValue().size();
            worth += c.liking(set.getKey()) * 2 * n * n;
            for (int state : set.getValue().values()) {
                worth += state;
            }
        }
        return worth;
    }

    Map<Integer, Integer> greatest(Collector c, int set) {
        Map<Integer, Integer> found = new HashMap<>();
        for (Thimble t : thimbles) {
            if (t.owner == c && t.set == set) {
                found.merge(t.number, t.state, Integer::max);
            }
        }
        return found;
    }

    int collector(int collector, int what) {
        Collector c = collectors.get(collector);
        int all = 0;
        int lent = 0;
        Set<Integer> hallmarks = new HashSet<>();
        for (Thimble t : thimbles) {
            if (t.owner == c) {
                all++;
                lent += t.lent ? 1 : 0;
                hallmarks.add(t.hallmark);
            }
        }
        int whole = 0;
        for (int set = 0; set < 8; set++) {
            whole += greatest(c, set).size() == 6 ? 1 : 0;
        }
        int grudges = c.grudges.values().stream().mapToInt(g -> g).sum();
        return new int[] {all, lent, hallmarks.size(), worth(c), whole, grudges, c.swaps}[what];
    }

    int grudge(int collector, int other) {
        return collectors.get(collector).grudge(collectors.get(other));
    }

    int thimble(int thimble, int what) {
        Thimble t = thimbles.get(thimble);
        return new int[] {t.set, t.number, t.hallmark, t.state, t.owner.index, t.lent ? t.till : -1}[what];
    }

    private int[] gainsOfBoth(Thimble a, Thimble b) {
        Collector one = a.owner;
        Collector two = b.owner;
        int worthOfOne = worth(one);
        int worthOfTwo = worth(two);
        a.owner = two;
        b.owner = one;
        int[] gains = {worth(one) - worthOfOne, worth(two) - worthOfTwo};
        a.owner = one;
        b.owner = two;
        return gains;
    }

    int gains(int thimble, int other) {
        return gainsOfBoth(thimbles.get(thimble), thimbles.get(other))[0];
    }

    int swap(int thimble, int other) {
        Thimble a = thimbles.get(thimble);
        Thimble b = thimbles.get(other);
        Collector one = a.owner;
        Collector two = b.owner;
        int[] gains = gainsOfBoth(a, b);
        boolean oneWants = gains[0] > 2 * one.grudge(two);
        boolean twoWants = gains[1] > 2 * two.grudge(one);
        if (oneWants && twoWants) {
            exchange(a, b);
            return 0;
        }
        refused++;
        if (oneWants) {
            one.grudges.put(two, Math.min(9, one.grudge(two) + 1));
        }
        if (twoWants) {
            two.grudges.put(one, Math.min(9, two.grudge(one) + 1));
        }
        return (oneWants ? 0 : 1) + (twoWants ? 0 : 2);
    }

    private void exchange(Thimble a, Thimble b) {
        Collector one = a.owner;
        Collector two = b.owner;
        a.owner = two;
        b.owner = one;
        one.grudges.put(two, Math.max(0, one.grudge(two) - 1));
        two.grudges.put(one, Math.max(0, two.grudge(one) - 1));
        one.swaps++;
        two.swaps++;
        agreed++;
    }

    int best(int collector, int other) {
        Collector one = collectors.get(collector);
        Collector two = collectors.get(other);
        int best = -1;
        int most = 0;
        // From the greatest number down, and equal ones replace: the program goes the other way.
        for (int code = 36 * 36 - 1; code >= 0; code--) {
            if (code / 36 >= thimbles.size() || code % 36 >= thimbles.size()) {
                continue;
            }
            Thimble a = thimbles.get(code / 36);
            Thimble b = thimbles.get(code % 36);
            if (a.owner != one || b.owner != two || a.lent || b.lent) {
                continue;
            }
            int[] gains = gainsOfBoth(a, b);
            boolean agreedTo = gains[0] > 2 * one.grudge(two) && gains[1] > 2 * two.grudge(one);
            if (agreedTo && gains[0] + gains[1] >= most) {
                most = gains[0] + gains[1];
                best = code;
            }
        }
        return best;
    }

    int ring(int first, int second, int third) {
        Thimble[] ring = {thimbles.get(first), thimbles.get(second), thimbles.get(third)};
        Collector[] owners = {ring[0].owner, ring[1].owner, ring[2].owner};
        int[] worths = new int[3];
        for (int i = 0; i < 3; i++) {
            worths[i] = worth(owners[i]);
        }
        for (int i = 0; i < 3; i++) {
            ring[(i + 1) % 3].owner = owners[i];
        }
        int gain = 0;
        for (int i = 0; i < 3; i++) {
            gain += worth(owners[i]) > worths[i] ? 1 : 0;
        }
        for (int i = 0; i < 3; i++) {
            ring[i].owner = owners[i];
        }
        return gain;
    }

    int fair(int many) {
        int made = 0;
        boolean found = true;
        while (found && made < many) {
            found = false;
            for (int i = 0; i < collectors.size() && !found; i++) {
                for (int j = i + 1; j < collectors.size() && !found; j++) {
                    int code = best(i, j);
                    if (code >= 0) {
                        exchange(thimbles.get(code / 36), thimbles.get(code % 36));
                        found = true;
                        made++;
                    }
                }
            }
        }
        return made;
    }

    int lend(int thimble, int weeks) {
        Thimble t = thimbles.get(thimble);
        t.lent = true;
        t.weeks = weeks;
        t.till = week + weeks;
        return t.till;
    }

    private boolean isShown(int set, int number) {
        return thimbles.stream().anyMatch(t -> t.set == set && t.number == number && t.lent);
    }

    int shows(int set) {
        int shown = 0;
        for (int number = 0; number < 6; number++) {
            shown += isShown(set, number) ? 1 : 0;
        }
        return shown;
    }

    int lacks(int set) {
        int lacking = 0;
        for (int number = 0; number < 6; number++) {
            if (!isShown(set, number)) {
                int wanted = number;
                if (thimbles.stream().noneMatch(t -> t.set == set && t.number == wanted)) {
                    return -1;
                }
                lacking++;
            }
        }
        return lacking;
    }

    int finest(int set) {
        long best = 0;
        int finest = -1;
        for (Collector c : collectors) {
            Map<Integer, Integer> found = greatest(c, set);
            long rank = found.size() * 1000L + found.values().stream().mapToInt(s -> s).sum();
            if (rank > best) {
                best = rank;
                finest = c.index;
            }
        }
        return finest;
    }

    int pass(int weeks) {
        int home = 0;
        for (int i = 0; i < weeks; i++) {
            for (Thimble t : thimbles) {
                if (t.lent && t.till <= week) {
                    t.lent = false;
                    home++;
                    t.state = t.weeks >= 4 && t.state > 0 ? t.state - 1 : t.state;
                }
            }
            if (week % 5 == 0) {
                for (Collector c : collectors) {
                    c.grudges.replaceAll((other, grudge) -> Math.max(0, grudge - 1));
                }
            }
            week++;
        }
        return home;
    }

    int count(int what) {
        int lent = (int) thimbles.stream().filter(t -> t.lent).count();
        int worth = collectors.stream().mapToInt(this::worth).sum();
        return new int[] {week, collectors.size(), thimbles.size(), lent, agreed, refused, worth}[what];
    }

    double mean() {
        return thimbles.isEmpty() ? 0 : (double) count(6) / thimbles.size();
    }

    long digest() {
        List<Integer> told = new ArrayList<>();
        for (int what = 0; what <= 6; what++) {
            told.add(count(what));
        }
        for (int c = 0; c < collectors.size(); c++) {
            for (int what = 0; what <= 6; what++) {
                told.add(collector(c, what));
            }
            for (int set = 0; set < 8; set++) {
                told.add(collectors.get(c).liking(set));
            }
            for (int other = 0; other < collectors.size(); other++) {
                told.add(grudge(c, other));
            }
        }
        for (int t = 0; t < thimbles.size(); t++) {
            for (int what = 0; what <= 5; what++) {
                told.add(thimble(t, what));
            }
        }
        long d = 761;
        for (int x : told) {
            d = d * 31 + x;
        }
        return d;
    }
}
