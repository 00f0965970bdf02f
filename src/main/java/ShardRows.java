import java.util.Arrays;

/** Tests split over shards, drawn in an order by a seed, and their results gathered. */
public final class ShardRows {
    public static final int NONE = -1;

    private static final int MOST_SHARDS = 4;
    private static final int MOST_TESTS = 24;
    private static final int MOST_TIME = 100000;
    private static final int MOST_SEARCHED = 8;

    private static final int TAKEN = 1;
    private static final int DOUBLED = 0;
    private static final int UNKNOWN = -1;
    private static final int STRANGE = -2;

    private static final int SOME_MISSING = 0;
    private static final int ALL_GOOD = 1;
    private static final int SOME_BAD = 2;

    private final TestRows testRows;
    private final GroupRows groupRows;
    private final Search search;
    private final Greedy greedy;
    private final SplitRows latest;
    private final ResultRows results;
    private final DrawRow order;
    private int nextShards;

    public ShardRows(int shards) {
        nextShards = Math.max(1, Math.min(MOST_SHARDS, shards));
        testRows = new TestRows();
        groupRows = new GroupRows();
        search = new Search();
        greedy = new Greedy();
        latest = new SplitRows();
        results = new ResultRows();
        order = new DrawRow();
    }

    public int test(int time) {
        return testRows.add(time);
    }

    public boolean time(int test, int time) {
        return testRows.retime(test, time);
    }

    public boolean join(int test, int other) {
        return testRows.unite(test, other);
    }

    public boolean shards(int k) {
        if (k < 1 || k > MOST_SHARDS) {
            return false;
        }
        nextShards = k;
        return true;
    }

    public int mean() {
        return testRows.meanTime();
    }

    public int groups() {
        return testRows.countGroups();
    }

    public int split() {
        groupRows.gather(testRows);
        if (groupRows.count <= MOST_SEARCHED) {
            search.place(groupRows, latest, nextShards);
        } else {
            greedy.place(groupRows, latest, nextShards);
        }
        latest.take(groupRows, nextShards);
        results.forget();
        return latest.longest();
    }

    public int shard(int test) {
        return latest.shardAt(test);
    }

    public int sum(int shard) {
        return latest.hasShard(shard) ? latest.sums[shard] : NONE;
    }

    public int moved() {
        return latest.movedCount;
    }

    public int empty(int i) {
        int seen = 0;
        for (int shard = 0; shard < latest.shardCount; shard++) {
            if (latest.sizes[shard] == 0) {
                if (seen == i) {
                    return shard;
                }
                seen++;
            }
        }
        return NONE;
    }

    public int draw(int shard, long seed) {
        if (!latest.hasShard(shard)) {
            return NONE;
        }
        order.gather(latest, shard);
        order.shuffle(seed);
        return order.count;
    }

    public int drawn(int i) {
        return order.at(i);
    }

    public int result(int test, int shard, int its) {
        int due = latest.shardAt(test);
        if (due == NONE || !latest.hasShard(shard)) {
            return UNKNOWN;
        }
        if (due != shard) {
            results.strangers++;
            return STRANGE;
        }
        return results.put(test, its) ? TAKEN : DOUBLED;
    }

    public boolean again(int test) {
        return results.dropBad(test);
    }

    public int strange() {
        return results.strangers;
    }

    public int missing(int i) {
        int seen = 0;
        for (int test = 0; test < MOST_TESTS; test++) {
            if (isMissing(test)) {
                if (seen == i) {
                    return test;
                }
                seen++;
            }
        }
        return NONE;
    }

    public int verdict() {
        if (latest.shardCount == 0) {
            return NONE;
        }
        if (missing(0) != NONE) {
            return SOME_MISSING;
        }
        return results.anyBad() ? SOME_BAD : ALL_GOOD;
    }

    public int tries(int test) {
        return results.triesOf(test);
    }

    private boolean isMissing(int test) {
        return latest.shardAt(test) != NONE && !results.has(test);
    }

    private static boolean isTestNumber(int test) {
        return test >= 0 && test < MOST_TESTS;
    }

    /** The TESTS as by now: their TIMES (0: none) and who belongs together. */
    private static final class TestRows {
        int count;
        final int[] times = new int[MOST_TESTS];
        // The FIRST of each TEST's GROUP: equal ones belong together.
        final int[] firsts = new int[MOST_TESTS];

        boolean has(int test) {
            return test >= 0 && test < count;
        }

        int add(int time) {
            if (count >= MOST_TESTS || !isTime(time)) {
                return NONE;
            }
            int test = count;
            times[test] = time;
            firsts[test] = test;
            count++;
            return test;
        }

        boolean retime(int test, int time) {
            if (!has(test) || !isTime(time)) {
                return false;
            }
            times[test] = time;
            return true;
        }

        boolean unite(int test, int other) {
            if (!has(test) || !has(other) || firsts[test] == firsts[other]) {
                return false;
            }
            int kept = Math.min(firsts[test], firsts[other]);
            int given = Math.max(firsts[test], firsts[other]);
            for (int i = 0; i < count; i++) {
                if (firsts[i] == given) {
                    firsts[i] = kept;
                }
            }
            return true;
        }

        int meanTime() {
            int total = 0;
            int timed = 0;
            for (int test = 0; test < count; test++) {
                total += times[test];
                timed += times[test] == 0 ? 0 : 1;
            }
            return timed == 0 ? 1 : (total + timed - 1) / timed;
        }

        int countGroups() {
            int found = 0;
            for (int test = 0; test < count; test++) {
                found += firsts[test] == test ? 1 : 0;
            }
            return found;
        }

        private static boolean isTime(int time) {
            return time >= 0 && time <= MOST_TIME;
        }
    }

    /** The GROUPS of one SPLIT, in the order of their FIRSTS, and the SHARD that each is given. */
    private static final class GroupRows {
        int count;
        int testCount;
        final int[] firsts = new int[MOST_TESTS];
        final int[] times = new int[MOST_TESTS];
        final int[] shards = new int[MOST_TESTS];
        // By TEST, where the other rows go by GROUP.
        final int[] groupOf = new int[MOST_TESTS];

        void gather(TestRows tests) {
            int mean = tests.meanTime();
            count = 0;
            testCount = tests.count;
            for (int test = 0; test < testCount; test++) {
                int first = tests.firsts[test];
                // A FIRST is the least of its GROUP, so it comes by before the others.
                int group = first == test ? open(test) : groupAt(first);
                groupOf[test] = group;
                if (group >= 0 && group < count) {
                    times[group] += tests.times[test] == 0 ? mean : tests.times[test];
                }
            }
        }

        int groupAt(int test) {
            return test >= 0 && test < testCount ? groupOf[test] : NONE;
        }

        int shardFor(int test) {
            int group = groupAt(test);
            return group >= 0 && group < count ? shards[group] : NONE;
        }

        private int open(int first) {
            int group = count;
            firsts[group] = first;
            times[group] = 0;
            shards[group] = NONE;
            count++;
            return group;
        }
    }

    /** The best SPLIT of few GROUPS: first its LENGTH is found, then the SHARDS under that LENGTH. */
    private static final class Search {
        private int shardCount;
        private int groupCount;
        private int leastLength;
        private int leastMoves;
        private final int[] times = new int[MOST_SEARCHED];
        private final int[] sums = new int[MOST_SHARDS];
        private final int[] trial = new int[MOST_SEARCHED];
        private final int[] best = new int[MOST_SEARCHED];
        // How many TESTS are MOVED if a GROUP goes to a SHARD.
        private final int[][] moves = new int[MOST_SEARCHED][MOST_SHARDS];
        // How many are MOVED at the least from a GROUP on to the last.
        private final int[] movesFrom = new int[MOST_SEARCHED + 1];

        void place(GroupRows groups, SplitRows before, int shards) {
            shardCount = Math.min(shards, MOST_SHARDS);
            groupCount = Math.min(groups.count, MOST_SEARCHED);
            System.arraycopy(groups.times, 0, times, 0, groupCount);
            countMoves(groups, before);
            sumLeastMoves();
            Arrays.fill(sums, 0);
            leastLength = Integer.MAX_VALUE;
            seekLength(0, 0, 0);
            leastMoves = Integer.MAX_VALUE;
            seekShards(0, 0);
            System.arraycopy(best, 0, groups.shards, 0, groupCount);
        }

        private void countMoves(GroupRows groups, SplitRows before) {
            for (int group = 0; group < groupCount; group++) {
                Arrays.fill(moves[group], 0);
                for (int test = groups.firsts[group]; test < groups.testCount; test++) {
                    int old = before.shardAt(test);
                    if (old != NONE && groups.groupAt(test) == group) {
                        addMove(group, old);
                    }
                }
            }
        }

        private void addMove(int group, int old) {
            for (int shard = 0; shard < shardCount; shard++) {
                moves[group][shard] += shard == old ? 0 : 1;
            }
        }

        private void sumLeastMoves() {
            movesFrom[groupCount] = 0;
            for (int group = groupCount - 1; group >= 0; group--) {
                int least = moves[group][0];
                for (int shard = 1; shard < shardCount; shard++) {
                    least = Math.min(least, moves[group][shard]);
                }
                movesFrom[group] = movesFrom[group + 1] + least;
            }
        }

        // Which of the SHARDS that are still empty a GROUP opens is all one to the LENGTH,
        // so only the next one is tried: that spares most of the search.
        private void seekLength(int group, int opened, int length) {
            if (length >= leastLength) {
                return;
            }
            if (group >= groupCount) {
                leastLength = length;
                return;
            }
            int tried = Math.min(opened + 1, shardCount);
            for (int shard = 0; shard < tried; shard++) {
                sums[shard] += times[group];
                seekLength(group + 1, Math.max(opened, shard + 1), Math.max(length, sums[shard]));
                sums[shard] -= times[group];
            }
        }

        // SHARDS are tried from the least up, so of equally good SPLITS the one due comes first
        // and a later one has to be better to take its place.
        private void seekShards(int group, int moved) {
            if (moved + movesFrom[group] >= leastMoves) {
                return;
            }
            if (group >= groupCount) {
                leastMoves = moved;
                System.arraycopy(trial, 0, best, 0, groupCount);
                return;
            }
            for (int shard = 0; shard < shardCount; shard++) {
                if (sums[shard] + times[group] <= leastLength) {
                    sums[shard] += times[group];
                    trial[group] = shard;
                    seekShards(group + 1, moved + moves[group][shard]);
                    sums[shard] -= times[group];
                }
            }
        }
    }

    /** The SPLIT of many GROUPS: by falling TIMES, each to the SHARD with the least sum so far. */
    private static final class Greedy {
        private int shardCount;
        private final int[] sums = new int[MOST_SHARDS];

        void place(GroupRows groups, SplitRows before, int shards) {
            shardCount = Math.min(shards, MOST_SHARDS);
            Arrays.fill(sums, 0);
            for (int i = 0; i < groups.count; i++) {
                int group = longestUnplaced(groups);
                int shard = leastShard(before.shardAt(groups.firsts[group]));
                groups.shards[group] = shard;
                sums[shard] += groups.times[group];
            }
        }

        private static int longestUnplaced(GroupRows groups) {
            int found = 0;
            int longest = 0;
            for (int group = 0; group < groups.count; group++) {
                if (groups.shards[group] == NONE && groups.times[group] > longest) {
                    found = group;
                    longest = groups.times[group];
                }
            }
            return found;
        }

        private int leastShard(int old) {
            int least = 0;
            for (int shard = 1; shard < shardCount; shard++) {
                if (sums[shard] < sums[least]) {
                    least = shard;
                }
            }
            boolean stays = old >= 0 && old < shardCount && sums[old] == sums[least];
            return stays ? old : least;
        }
    }

    /** The latest SPLIT: what it gave to whom, whatever TESTS and TIMES have become since. */
    private static final class SplitRows {
        // 0 as long as there was no SPLIT.
        int shardCount;
        int movedCount;
        final int[] sums = new int[MOST_SHARDS];
        final int[] sizes = new int[MOST_SHARDS];
        private final int[] shardOf = new int[MOST_TESTS];

        SplitRows() {
            Arrays.fill(shardOf, NONE);
        }

        boolean hasShard(int shard) {
            return shard >= 0 && shard < shardCount;
        }

        int shardAt(int test) {
            return isTestNumber(test) ? shardOf[test] : NONE;
        }

        int longest() {
            int length = 0;
            for (int shard = 0; shard < shardCount; shard++) {
                length = Math.max(length, sums[shard]);
            }
            return length;
        }

        void take(GroupRows groups, int shards) {
            shardCount = Math.min(shards, MOST_SHARDS);
            movedCount = 0;
            Arrays.fill(sums, 0);
            Arrays.fill(sizes, 0);
            for (int group = 0; group < groups.count; group++) {
                addTime(groups.shards[group], groups.times[group]);
            }
            for (int test = 0; test < groups.testCount; test++) {
                give(test, groups.shardFor(test));
            }
        }

        private void addTime(int shard, int time) {
            if (hasShard(shard)) {
                sums[shard] += time;
            }
        }

        private void give(int test, int shard) {
            if (!isTestNumber(test) || !hasShard(shard)) {
                return;
            }
            if (shardOf[test] != NONE && shardOf[test] != shard) {
                movedCount++;
            }
            shardOf[test] = shard;
            sizes[shard]++;
        }
    }

    /** The RESULTS since the latest SPLIT. */
    private static final class ResultRows {
        int strangers;
        private final boolean[] present = new boolean[MOST_TESTS];
        private final int[] values = new int[MOST_TESTS];
        private final int[] tryCounts = new int[MOST_TESTS];

        void forget() {
            strangers = 0;
            Arrays.fill(tryCounts, 0);
            for (int test = 0; test < MOST_TESTS; test++) {
                present[test] = false;
            }
        }

        boolean has(int test) {
            return isTestNumber(test) && present[test];
        }

        boolean put(int test, int its) {
            if (!isTestNumber(test) || present[test]) {
                return false;
            }
            present[test] = true;
            values[test] = its;
            tryCounts[test]++;
            return true;
        }

        boolean dropBad(int test) {
            if (!isBad(test)) {
                return false;
            }
            present[test] = false;
            return true;
        }

        boolean anyBad() {
            for (int test = 0; test < MOST_TESTS; test++) {
                if (isBad(test)) {
                    return true;
                }
            }
            return false;
        }

        int triesOf(int test) {
            return isTestNumber(test) ? tryCounts[test] : 0;
        }

        private boolean isBad(int test) {
            return has(test) && values[test] != 0;
        }
    }

    /** The latest draw. It stays when a SPLIT comes, until the next draw. */
    private static final class DrawRow {
        private static final long FACTOR = 6364136223846793005L;
        private static final long ADDEND = 1442695040888963407L;

        int count;
        private final int[] row = new int[MOST_TESTS];

        int at(int i) {
            return i >= 0 && i < count ? row[i] : NONE;
        }

        void gather(SplitRows split, int shard) {
            count = 0;
            for (int test = 0; test < MOST_TESTS; test++) {
                if (split.shardAt(test) == shard) {
                    row[count] = test;
                    count++;
                }
            }
        }

        void shuffle(long seed) {
            long x = seed;
            for (int i = count - 1; i >= 1; i--) {
                x = x * FACTOR + ADDEND;
                int j = (int) ((x >>> 33) % (i + 1));
                int kept = row[i];
                row[i] = row[j];
                row[j] = kept;
            }
        }
    }
}
