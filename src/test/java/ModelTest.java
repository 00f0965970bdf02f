import java.util.ArrayList;
import java.util.Arrays;
import java.util.Comparator;
import java.util.List;
import java.util.Random;

/**
 * Long runs of calls, wrong ones among them, against a model that follows the document's words
 * with no thought of speed: it looks at all SPLITS one by one.
 */
public final class ModelTest {
    private static final int NONE = -1;
    private static final int RUNS = 800;
    // What an object answers after so many calls is free.
    private static final int MOST_CALLS = 512;
    private static final int[] ODD = {-1, -2, 24, 25, 100001, Integer.MIN_VALUE, Integer.MAX_VALUE};

    /** What the document says, in its plainest form. */
    private static final class Model {
        int k;
        boolean wasSplit;
        int splitShards;
        int movedNow;
        int strangeNow;
        int[] sumNow = {};
        List<Integer> times = new ArrayList<>();
        List<int[]> joins = new ArrayList<>();
        List<Integer> shardNow = new ArrayList<>();
        List<Integer> drawnNow = new ArrayList<>();
        Integer[] results = new Integer[24];
        int[] tries = new int[24];

        Model(int shards) {
            k = shards < 1 ? 1 : shards > 4 ? 4 : shards;
        }

        boolean isTest(int t) {
            return t >= 0 && t < times.size();
        }

        boolean isShard(int s) {
            return wasSplit && s >= 0 && s < splitShards;
        }

        int test(int time) {
            if (times.size() == 24 || time < 0 || time > 100000) {
                return NONE;
            }
            times.add(time);
            return times.size() - 1;
        }

        boolean time(int t, int time) {
            if (!isTest(t) || time < 0 || time > 100000) {
                return false;
            }
            times.set(t, time);
            return true;
        }

        /** The TESTS that can be reached from one by what was joined. */
        List<Integer> groupOf(int t) {
            boolean[] in = new boolean[24];
            in[t] = true;
            for (int round = 0; round < 24; round++) {
                for (int[] j : joins) {
                    in[j[0]] |= in[j[1]];
                    in[j[1]] |= in[j[0]];
                }
            }
            List<Integer> group = new ArrayList<>();
            for (int i = 0; i < 24; i++) {
                if (in[i]) {
                    group.add(i);
                }
            }
            return group;
        }

        List<List<Integer>> allGroups() {
            List<List<Integer>> all = new ArrayList<>();
            for (int t = 0; t < times.size(); t++) {
                List<Integer> group = groupOf(t);
                if (group.get(0) == t) {
                    all.add(group);
                }
            }
            return all;
        }

        boolean join(int a, int b) {
            if (!isTest(a) || !isTest(b) || groupOf(a).contains(b)) {
                return false;
            }
            joins.add(new int[] {a, b});
            return true;
        }

        boolean shards(int n) {
            if (n < 1 || n > 4) {
                return false;
            }
            k = n;
            return true;
        }

        int mean() {
            long total = times.stream().mapToLong(x -> x).sum();
            long n = times.stream().filter(x -> x > 0).count();
            return n == 0 ? 1 : (int) Math.ceil((double) total / n);
        }

        int timeOf(List<Integer> group) {
            int total = 0;
            for (int t : group) {
                total += times.get(t) == 0 ? mean() : times.get(t);
            }
            return total;
        }

        int movedTo(List<Integer> group, int shard) {
            int n = 0;
            for (int t : group) {
                n += shard(t) != NONE && shard(t) != shard ? 1 : 0;
            }
            return n;
        }

        int split() {
            List<List<Integer>> all = allGroups();
            int[] place = all.size() <= 8 ? bestOfAll(all) : byFallingTimes(all);
            movedNow = 0;
            sumNow = new int[k];
            int[] next = new int[times.size()];
            for (int g = 0; g < place.length; g++) {
                movedNow += movedTo(all.get(g), place[g]);
                sumNow[place[g]] += timeOf(all.get(g));
                for (int t : all.get(g)) {
                    next[t] = place[g];
                }
            }
            shardNow.clear();
            for (int s : next) {
                shardNow.add(s);
            }
            wasSplit = true;
            splitShards = k;
            strangeNow = 0;
            results = new Integer[24];
            tries = new int[24];
            return Arrays.stream(sumNow).max().getAsInt();
        }

        int[] bestOfAll(List<List<Integer>> all) {
            int n = all.size();
            int[] groupTimes = new int[n];
            int[][] moves = new int[n][k];
            int count = 1;
            for (int g = 0; g < n; g++) {
                groupTimes[g] = timeOf(all.get(g));
                for (int s = 0; s < k; s++) {
                    moves[g][s] = movedTo(all.get(g), s);
                }
                count *= k;
            }
            int[] best = null;
            long bestKey = Long.MAX_VALUE;
            for (int code = 0; code < count; code++) {
                int[] place = new int[n];
                int[] sums = new int[k];
                int moved = 0;
                int rest = code;
                // The first GROUP is the highest digit, so codes rise in the order due.
                for (int g = n - 1; g >= 0; g--) {
                    place[g] = rest % k;
                    rest /= k;
                    sums[place[g]] += groupTimes[g];
                    moved += moves[g][place[g]];
                }
                int length = 0;
                for (int s : sums) {
                    length = Math.max(length, s);
                }
                long key = length * 100L + moved;
                if (key < bestKey) {
                    bestKey = key;
                    best = place;
                }
            }
            return best;
        }

        int[] byFallingTimes(List<List<Integer>> all) {
            List<List<Integer>> sorted = new ArrayList<>(all);
            sorted.sort(Comparator.comparingInt((List<Integer> g) -> -timeOf(g)).thenComparingInt(g -> g.get(0)));
            int[] sums = new int[k];
            int[] place = new int[all.size()];
            for (List<Integer> group : sorted) {
                int least = Arrays.stream(sums).min().getAsInt();
                List<Integer> among = new ArrayList<>();
                for (int s = 0; s < k; s++) {
                    if (sums[s] == least) {
                        among.add(s);
                    }
                }
                int old = shard(group.get(0));
                int s = among.contains(old) ? old : among.get(0);
                place[all.indexOf(group)] = s;
                sums[s] += timeOf(group);
            }
            return place;
        }

        int shard(int t) {
            return t >= 0 && t < shardNow.size() ? shardNow.get(t) : NONE;
        }

        int sum(int s) {
            return isShard(s) ? sumNow[s] : NONE;
        }

        int empty(int i) {
            List<Integer> found = new ArrayList<>();
            for (int s = 0; s < splitShards; s++) {
                if (!shardNow.contains(s)) {
                    found.add(s);
                }
            }
            return at(found, i);
        }

        int draw(int s, long seed) {
            if (!isShard(s)) {
                return NONE;
            }
            drawnNow = new ArrayList<>();
            for (int t = 0; t < shardNow.size(); t++) {
                if (shardNow.get(t) == s) {
                    drawnNow.add(t);
                }
            }
            long x = seed;
            for (int i = drawnNow.size() - 1; i >= 1; i--) {
                x = x * 6364136223846793005L + 1442695040888963407L;
                int j = (int) Long.remainderUnsigned(x >>> 33, i + 1);
                int held = drawnNow.get(i);
                drawnNow.set(i, drawnNow.get(j));
                drawnNow.set(j, held);
            }
            return drawnNow.size();
        }

        int result(int t, int s, int its) {
            if (!isTest(t) || !isShard(s) || shard(t) == NONE) {
                return -1;
            }
            if (shard(t) != s) {
                strangeNow++;
                return -2;
            }
            if (results[t] != null) {
                return 0;
            }
            results[t] = its;
            tries[t]++;
            return 1;
        }

        boolean again(int t) {
            if (!isTest(t) || results[t] == null || results[t] == 0) {
                return false;
            }
            results[t] = null;
            return true;
        }

        int missing(int i) {
            List<Integer> found = new ArrayList<>();
            for (int t = 0; t < shardNow.size(); t++) {
                if (results[t] == null) {
                    found.add(t);
                }
            }
            return at(found, i);
        }

        int verdict() {
            if (!wasSplit) {
                return NONE;
            }
            if (missing(0) != NONE) {
                return 0;
            }
            boolean good = true;
            for (int t = 0; t < shardNow.size(); t++) {
                good &= results[t] == 0;
            }
            return good ? 1 : 2;
        }

        int tries(int t) {
            return isTest(t) ? tries[t] : 0;
        }

        static int at(List<Integer> list, int i) {
            return i >= 0 && i < list.size() ? list.get(i) : NONE;
        }
    }

    private final Random random;
    private final Model model;
    private final ShardRows rows;
    private final int mostTests;
    private final int mostTime;
    private int calls = 0;

    private ModelTest(int run) {
        random = new Random(run);
        int shards = random.nextInt(8) - 1;
        model = new Model(shards);
        rows = new ShardRows(shards);
        mostTests = run % 3 == 0 ? 24 : 1 + random.nextInt(12);
        mostTime = new int[] {2, 6, 30, 100000}[random.nextInt(4)];
    }

    public static void main(String[] args) {
        for (int run = 0; run < RUNS; run++) {
            Check.part("run " + run);
            ModelTest test = new ModelTest(run);
            test.fill();
            while (test.calls < MOST_CALLS) {
                test.step();
            }
        }
        Check.end();
    }

    private void due(String call, long got, long want) {
        calls++;
        if (calls <= MOST_CALLS) {
            Check.due(call, got, want);
        }
    }

    private void due(String call, boolean got, boolean want) {
        due(call, got ? 1 : 0, want ? 1 : 0);
    }

    private void fill() {
        int count = random.nextInt(mostTests + 1);
        for (int i = 0; i < count; i++) {
            int time = random.nextInt(mostTime + 1);
            due("test(" + time + ")", rows.test(time), model.test(time));
        }
    }

    private int below(int bound) {
        return random.nextInt(25) == 0 ? ODD[random.nextInt(ODD.length)] : random.nextInt(bound);
    }

    private int someTest() {
        return below(mostTests + 1);
    }

    private void step() {
        int kind = random.nextInt(100);
        if (kind < 40) {
            change(kind);
        } else if (kind < 70) {
            gather(kind);
        } else {
            ask();
        }
    }

    private void change(int kind) {
        int a = someTest();
        int b = someTest();
        int time = random.nextInt(6) == 0 ? 0 : below(mostTime + 1);
        if (kind < 12) {
            if (model.times.size() < mostTests || mostTests == 24) {
                due("test(" + time + ")", rows.test(time), model.test(time));
            }
        } else if (kind < 22) {
            due("time(" + a + ", " + time + ")", rows.time(a, time), model.time(a, time));
        } else if (kind < 24) {
            due("join(" + a + ", " + b + ")", rows.join(a, b), model.join(a, b));
        } else if (kind < 28) {
            int k = below(6);
            due("shards(" + k + ")", rows.shards(k), model.shards(k));
        } else if (kind < 33) {
            due("split()", rows.split(), model.split());
            compareShards();
        } else {
            int s = below(4);
            long seed = random.nextLong();
            due("draw(" + s + ", " + seed + ")", rows.draw(s, seed), model.draw(s, seed));
        }
    }

    private void gather(int kind) {
        int t = someTest();
        int s = random.nextInt(4) == 0 ? below(4) : model.shard(t);
        int its = random.nextInt(3) == 0 ? random.nextInt() : 0;
        if (kind < 62) {
            due("result(" + t + ", " + s + ", " + its + ")", rows.result(t, s, its), model.result(t, s, its));
        } else {
            due("again(" + t + ")", rows.again(t), model.again(t));
        }
    }

    private void ask() {
        compareAt(below(26));
        due("mean()", rows.mean(), model.mean());
        due("groups()", rows.groups(), model.allGroups().size());
        due("moved()", rows.moved(), model.movedNow);
        due("strange()", rows.strange(), model.strangeNow);
        due("verdict()", rows.verdict(), model.verdict());
    }

    private void compareAt(int i) {
        due("shard(" + i + ")", rows.shard(i), model.shard(i));
        due("sum(" + i + ")", rows.sum(i), model.sum(i));
        due("empty(" + i + ")", rows.empty(i), model.empty(i));
        due("drawn(" + i + ")", rows.drawn(i), Model.at(model.drawnNow, i));
        due("missing(" + i + ")", rows.missing(i), model.missing(i));
        due("tries(" + i + ")", rows.tries(i), model.tries(i));
    }

    private void compareShards() {
        for (int test = 0; test < model.times.size(); test++) {
            due("shard(" + test + ")", rows.shard(test), model.shard(test));
        }
        for (int shard = 0; shard < 5; shard++) {
            due("sum(" + shard + ")", rows.sum(shard), model.sum(shard));
            due("empty(" + shard + ")", rows.empty(shard), model.empty(shard));
        }
        due("moved()", rows.moved(), model.movedNow);
    }
}
