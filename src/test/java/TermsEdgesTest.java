import java.util.ArrayList;
import java.util.List;

/** Each sentence of "Terms" and "What it is" that names a boundary, on both its sides. */
public final class TermsEdgesTest {
    private static final int NONE = Rows.NONE;
    // 16 + 16 and 10 + 10 + 10 are the best, which falling TIMES never find: they put 36 together.
    private static final int[] TRAP = {16, 16, 10, 10, 10};

    public static void main(String[] args) {
        shardsFromZero();
        testsFromZero();
        meanRoundedUp();
        meanOneIfNone();
        meanCountsForOneWithoutATime();
        belongByWayOfOthers();
        perhapsAlone();
        groupTimeIsTheSum();
        firstIsTheLeast();
        lengthIsTheGreatestSum();
        movedHadAShard();
        movedSinceTheLatestOne();
        movedWithAnotherK();
        atMostEightGroups();
        groupsNotTestsAreCounted();
        leastLengthFirst();
        thenFewestMoved();
        thenTheLeastShards();
        manyByFallingTimes();
        manyEqualOnesByTheirOrder();
        manyToTheLeastSum();
        manyToWhereTheFirstWas();
        manyElseToTheLeast();
        drawnByNumbersAtFirst();
        drawnDownToOne();
        drawnModuloTwoToThe64();
        drawnWithoutSign();
        resultsOfTheLatestSplit();
        resultOfZeroIsGood();
        fullOfTests();
        usedFor512Calls();
        Check.end();
    }

    private static int[] and(int[] times, int... more) {
        int[] all = new int[times.length + more.length];
        System.arraycopy(times, 0, all, 0, times.length);
        System.arraycopy(more, 0, all, times.length, more.length);
        return all;
    }

    private static void shardsFromZero() {
        Check.part("SHARDS 0 .. k - 1");
        for (int k = 1; k <= 4; k++) {
            ShardRows x = Rows.alike(k, k, 7);
            x.split();
            for (int test = 0; test < k; test++) {
                Check.due("shard(" + test + ") over " + k, x.shard(test), test);
            }
            Check.due("sum(" + (k - 1) + ")", x.sum(k - 1), 7);
            Check.due("sum(" + k + ")", x.sum(k), NONE);
            Check.due("sum(-1)", x.sum(-1), NONE);
        }
    }

    private static void testsFromZero() {
        Check.part("TESTS, at most 24, numbered from 0");
        ShardRows x = new ShardRows(1);
        for (int test = 0; test < 24; test++) {
            Check.due("test(1)", x.test(1), test);
        }
        Check.due("test(1)", x.test(1), NONE);
        Check.due("split()", x.split(), 24);
    }

    private static void dueMean(int want, int... times) {
        Check.due("mean() of " + times.length, Rows.with(1, times).mean(), want);
    }

    private static void meanRoundedUp() {
        Check.part("rounded up");
        dueMean(3, 3, 3);
        dueMean(4, 3, 4);
        dueMean(4, 4, 4);
        dueMean(3, 3, 3, 3);
        dueMean(4, 3, 3, 4);
        dueMean(4, 3, 4, 4);
        dueMean(4, 4, 4, 4);
        dueMean(1, 1);
        dueMean(2, 1, 2);
        dueMean(100000, 100000, 99999);
        dueMean(50001, 1, 100000);
        ShardRows x = Rows.alike(1, 24, 100000);
        Check.due("mean() of the most", x.mean(), 100000);
        x.time(0, 99977);
        Check.due("mean() of 23 less", x.mean(), 100000);
        x.time(0, 99976);
        Check.due("mean() of 24 less", x.mean(), 99999);
    }

    private static void meanOneIfNone() {
        Check.part("1 if there are none");
        dueMean(1);
        dueMean(1, 0);
        dueMean(1, 0, 0, 0);
        dueMean(9, 0, 9, 0);
        ShardRows x = Rows.with(1, 9, 0);
        x.time(0, 0);
        Check.due("mean() when the last TIME goes", x.mean(), 1);
        Check.due("split() of two without a TIME", x.split(), 2);
        Check.due("split() of 24 without a TIME", Rows.alike(4, 24, 0).split(), 6);
    }

    private static void meanCountsForOneWithoutATime() {
        Check.part("or none: then the MEAN counts");
        ShardRows x = Rows.with(1, 0, 2, 5, 0);
        Check.due("split()", x.split(), 4 + 2 + 5 + 4);
        x.join(0, 3);
        x.shards(2);
        Check.due("split() with it in a GROUP", x.split(), 8);
        Rows.dueSums(x, 8, 7);
        x.time(2, 9);
        Check.due("split() with the MEAN of by now", x.split(), 12);
        Rows.dueSums(x, 12, 11);
    }

    private static void belongByWayOfOthers() {
        Check.part("by way of others too");
        ShardRows x = Rows.alike(4, 6, 1);
        x.join(5, 4);
        x.join(2, 3);
        Check.due("groups()", x.groups(), 4);
        x.join(3, 4);
        Check.due("groups()", x.groups(), 3);
        Check.due("split()", x.split(), 4);
        Rows.dueShards(x, 0, 0, 1, 1, 1, 1);
        Check.due("join(2, 5)", x.join(2, 5), false);
        ShardRows chain = Rows.alike(3, 24, 1);
        for (int test = 23; test > 0; test--) {
            Check.due("join in a chain", chain.join(test, test - 1), true);
        }
        Check.due("join of its ends", chain.join(0, 23), false);
        Check.due("split() of a chain", chain.split(), 24);
        Rows.dueSums(chain, 24, 0, 0);
    }

    private static void perhapsAlone() {
        Check.part("each TEST is in just one (perhaps alone)");
        ShardRows x = Rows.alike(3, 3, 4);
        Check.due("groups()", x.groups(), 3);
        x.join(0, 2);
        Check.due("groups()", x.groups(), 2);
        x.split();
        Rows.dueSums(x, 8, 4, 0);
        Check.due("test(4) after a join", x.test(4), 3);
        Check.due("groups(): it is alone", x.groups(), 3);
        x.split();
        Rows.dueShards(x, 0, 1, 0, 1);
        Rows.dueSums(x, 8, 8, 0);
    }

    private static void groupTimeIsTheSum() {
        Check.part("a GROUP's TIME is the sum of its TESTS'");
        ShardRows x = Rows.with(2, 1, 6, 2, 3);
        Rows.join(x, 0, 2, 3);
        Check.due("split()", x.split(), 6);
        Rows.dueSums(x, 6, 6);
        x.time(3, 4);
        Check.due("split()", x.split(), 7);
        Rows.dueSums(x, 7, 6);
    }

    private static void firstIsTheLeast() {
        Check.part("its FIRST the least of them; in the order of their FIRSTS");
        // The GROUP of 3 and 1 is the second, so SHARD 1 falls to it and SHARD 0 to TEST 2.
        ShardRows x = Rows.alike(2, 4, 1);
        x.join(3, 1);
        Check.due("split()", x.split(), 2);
        Rows.dueShards(x, 0, 1, 0, 1);
        // Joined to 0 by way of 3 it is the first.
        x = Rows.with(2, 1, 1, 3, 1);
        x.join(3, 1);
        x.join(3, 0);
        Check.due("split()", x.split(), 3);
        Rows.dueShards(x, 0, 0, 1, 0);
    }

    private static void lengthIsTheGreatestSum() {
        Check.part("its LENGTH is the greatest sum");
        ShardRows x = Rows.with(4, 2, 9, 8, 7);
        Check.due("split() over 4", x.split(), 9);
        Rows.dueSums(x, 9, 9, 8, 0);
        x.shards(1);
        Check.due("split() over 1", x.split(), 26);
        Check.due("split() of the most", Rows.alike(1, 24, 100000).split(), 2400000);
        Check.due("split() of the most over 4", Rows.alike(4, 24, 100000).split(), 600000);
    }

    private static void movedHadAShard() {
        Check.part("MOVED are TESTS that had a SHARD and have another one");
        ShardRows x = Rows.split(1, 3, 3);
        x.test(3);
        x.test(3);
        x.shards(2);
        Check.due("split()", x.split(), 6);
        Rows.dueShards(x, 0, 0, 1, 1);
        Check.due("moved(): those that came later are not", x.moved(), 0);
        Rows.join(x, 0, 2, 3);
        Rows.dueSplit(x, 9, 1, 1, 0, 1, 1);
        x.join(0, 1);
        Rows.dueSplit(x, 12, 1, 1, 1, 1, 1);
    }

    private static void movedSinceTheLatestOne() {
        Check.part("the SPLIT before: the latest one");
        ShardRows x = Rows.split(2, 2, 2, 2, 6);
        Rows.dueShards(x, 0, 0, 0, 1);
        x.join(1, 2);
        x.time(0, 4);
        x.time(3, 3);
        Rows.dueSplit(x, 7, 1, 1, 0, 0, 1);
        // Of three GROUPS of 4 any two may share; TEST 0 now is at home where it is, not where it was.
        x.time(3, 4);
        Rows.dueSplit(x, 8, 0, 1, 0, 0, 1);
    }

    private static void movedWithAnotherK() {
        Check.part("k then may have been another");
        ShardRows x = Rows.split(4, 3, 3, 3, 3);
        Rows.dueShards(x, 0, 1, 2, 3);
        x.shards(3);
        Check.due("split()", x.split(), 6);
        Rows.dueShards(x, 0, 1, 2, 0);
        Check.due("moved(): the one whose SHARD is gone", x.moved(), 1);
        x.shards(4);
        Rows.dueSplit(x, 3, 1, 0, 1, 2, 3);
        x.shards(1);
        Rows.dueSplit(x, 12, 3);
        x.shards(4);
        Rows.dueSplit(x, 3, 3);
    }

    private static void atMostEightGroups() {
        Check.part("with at most 8 GROUPS");
        Check.due("split() of 5", Rows.with(2, TRAP).split(), 32);
        Check.due("split() of 7", Rows.with(2, and(TRAP, 1, 1)).split(), 32);
        Check.due("split() of 8", Rows.with(2, and(TRAP, 1, 1, 1)).split(), 33);
        Check.part("with more");
        Check.due("split() of 9", Rows.with(2, and(TRAP, 1, 1, 1, 1)).split(), 36);
        Check.due("split() of 10", Rows.with(2, and(TRAP, 1, 1, 1, 1, 1)).split(), 36);
    }

    private static void groupsNotTestsAreCounted() {
        Check.part("8 GROUPS, not TESTS");
        ShardRows x = Rows.with(2, and(TRAP, 1, 1, 1, 1));
        Check.due("split() of 9 GROUPS", x.split(), 36);
        x.join(5, 8);
        Check.due("split() of 8 GROUPS of 9 TESTS", x.split(), 33);
        x.test(1);
        Check.due("split() of 9 GROUPS of 10 TESTS", x.split(), 36);
        x = Rows.with(2, TRAP);
        for (int test = 5; test < 24; test++) {
            x.test(1);
        }
        Rows.join(x, 5, 8, 9, 10, 11, 12, 13, 14, 15);
        Rows.join(x, 6, 16, 17, 18, 19, 20, 21, 22);
        Check.due("split() of 9 GROUPS of 24 TESTS", x.split(), 43);
        x.join(6, 23);
        Check.due("split() of 8 GROUPS of 24 TESTS", x.split(), 41);
    }

    private static void leastLengthFirst() {
        Check.part("that with the least LENGTH");
        ShardRows x = Rows.split(2, 1, 1, 1, 3);
        Rows.dueShards(x, 0, 0, 0, 1);
        x.time(3, 1);
        x.time(0, 3);
        Rows.dueSplit(x, 3, 2, 0, 1, 1, 1);
        x.time(3, 2);
        x.time(0, 4);
        Check.due("split()", x.split(), 4);
        Check.due("moved() where to stay is as short", x.moved(), 0);
        x.time(3, 3);
        x.time(0, 3);
        Check.due("split()", x.split(), 4);
        Rows.dueShards(x, 0, 0, 1, 1);
        Check.due("moved() where to stay is longer by 1", x.moved(), 1);
    }

    private static void thenFewestMoved() {
        Check.part("of those with the fewest MOVED");
        ShardRows x = Rows.split(2, 6, 2, 2, 2);
        Rows.dueShards(x, 0, 1, 1, 1);
        x.time(0, 2);
        Rows.dueSplit(x, 4, 1, 0, 0, 1, 1);
        x.time(0, 3);
        x.time(3, 1);
        Rows.dueSplit(x, 4, 2, 0, 1, 1, 0);
        x.time(0, 2);
        x.time(3, 2);
        Check.due("split()", x.split(), 4);
        Rows.dueShards(x, 0, 1, 1, 0);
        Check.due("moved(): not back, though 0, 0 would be less", x.moved(), 0);
        // TESTS count, not GROUPS: one TEST goes sooner than a GROUP of two,
        x = Rows.split(2, 2, 2, 2, 6);
        Rows.dueShards(x, 0, 0, 0, 1);
        x.join(1, 2);
        x.time(0, 4);
        x.time(3, 3);
        Rows.dueSplit(x, 7, 1, 1, 0, 0, 1);
        // and two TESTS sooner than a GROUP of three.
        x = Rows.split(2, 2, 2, 2, 3, 3, 12);
        Rows.dueShards(x, 0, 0, 0, 0, 0, 1);
        Rows.join(x, 0, 1, 2);
        x.time(5, 1);
        Rows.dueSplit(x, 7, 2, 0, 0, 0, 1, 1, 1);
    }

    private static void thenTheLeastShards() {
        Check.part("of those the first GROUP's SHARD is the least, and so on");
        ShardRows x = Rows.alike(4, 8, 7);
        Check.due("split() of 8", x.split(), 14);
        Rows.dueShards(x, 0, 0, 1, 1, 2, 2, 3, 3);
        x = Rows.with(4, 9, 1, 1, 1, 1);
        Check.due("split()", x.split(), 9);
        Rows.dueShards(x, 0, 1, 1, 1, 1);
        Rows.dueEmpty(x, 2, 3);
        x = Rows.with(3, 1, 5, 4, 2, 3);
        Check.due("split()", x.split(), 5);
        Rows.dueShards(x, 0, 1, 0, 2, 2);
    }

    private static void manyByFallingTimes() {
        Check.part("GROUPS are taken by falling TIMES");
        ShardRows x = Rows.with(2, 1, 2, 3, 4, 5, 6, 7, 8, 9);
        Check.due("split()", x.split(), 23);
        Rows.dueShards(x, 0, 0, 1, 1, 0, 0, 1, 1, 0);
        // Three of 3 that belong together are 9 and come first, alone they would come sixth.
        x = Rows.with(2, 8, 7, 6, 5, 4, 3, 3, 3, 3, 2, 1);
        Rows.join(x, 5, 6, 7);
        Check.due("groups()", x.groups(), 9);
        Check.due("split()", x.split(), 23);
        Rows.dueShards(x, 1, 1, 0, 0, 1, 0, 0, 0, 1, 0, 0);
    }

    private static void manyEqualOnesByTheirOrder() {
        Check.part("of equal ones by their order");
        ShardRows x = Rows.alike(4, 9, 5);
        Check.due("split()", x.split(), 15);
        Rows.dueShards(x, 0, 1, 2, 3, 0, 1, 2, 3, 0);
        // The GROUP of 8 and 1 is as long as the 4s and stands among them by its FIRST, 1.
        x = Rows.with(3, 4, 2, 4, 4, 4, 4, 4, 4, 2, 4);
        x.join(8, 1);
        Check.due("groups()", x.groups(), 9);
        Check.due("split()", x.split(), 12);
        Rows.dueShards(x, 0, 1, 2, 0, 1, 2, 0, 1, 1, 2);
    }

    private static void manyToTheLeastSum() {
        Check.part("each to the SHARD with the least sum so far");
        ShardRows x = Rows.with(3, 10, 7, 4, 3, 3, 3, 2, 2, 1);
        Check.due("split()", x.split(), 12);
        // 10 | 7 | 4, then 3 to 4, 3 to 7 of 7 and 7 (the lesser), 3 to 7, 2 to 10s, 2, and 1.
        Rows.dueShards(x, 0, 1, 2, 2, 1, 2, 0, 1, 2);
        Rows.dueSums(x, 12, 12, 11);
        // Its old SHARD is no reason where another one's sum is less by only 1.
        x.time(1, 5);
        x.time(7, 4);
        x.split();
        Check.due("shard(7), had 1, with 10, 5 and 4 so far", x.shard(7), 2);
    }

    private static void manyToWhereTheFirstWas() {
        Check.part("of equal ones to that which its FIRST had before");
        ShardRows x = Rows.alike(2, 10, 9);
        x.split();
        Rows.dueShards(x, 0, 1, 0, 1, 0, 1, 0, 1, 0, 1);
        x.join(2, 1);
        Rows.dueSplit(x, 45, 2, 0, 1, 1, 0, 0, 1, 0, 1, 0, 1);
        // The latest SHARD, not that of the first split.
        x.time(3, 19);
        x.split();
        Check.due("shard(3), taken first", x.shard(3), 0);
    }

    private static void manyElseToTheLeast() {
        Check.part("if that is among them, else to the least");
        // Its SHARD is gone.
        ShardRows x = Rows.alike(4, 12, 9);
        x.split();
        x.shards(3);
        x.time(3, 10);
        x.split();
        Check.due("shard(3), taken first, had 3 of four", x.shard(3), 0);
        Check.due("shard(0), had 0", x.shard(0), 1);
        Check.due("shard(1), had 1", x.shard(1), 2);
        // Its SHARD is there, but another has less.
        x = Rows.alike(2, 9, 9);
        x.split();
        x.time(0, 12);
        x.time(2, 11);
        x.split();
        Check.due("shard(0), taken first, had 0", x.shard(0), 0);
        Check.due("shard(2), taken second, had 0", x.shard(2), 1);
        // It had none: it came later.
        x.test(100);
        x.split();
        Check.due("shard(9), taken first", x.shard(9), 0);
        Check.due("shard(0), taken second", x.shard(0), 1);
    }

    private static void dueDraw(int tests, long seed, int... want) {
        ShardRows x = Rows.alike(1, tests, 5);
        x.split();
        Check.due("draw(0, " + seed + ")", x.draw(0, seed), want.length);
        Rows.dueDrawn(x, want);
    }

    private static void drawnByNumbersAtFirst() {
        Check.part("these by numbers");
        ShardRows x = Rows.split(2, 9, 3, 3, 3);
        x.draw(1, 2);
        Rows.dueDrawn(x, 3, 1, 2);
        x.draw(1, 2);
        Rows.dueDrawn(x, 3, 1, 2);
        x.join(3, 2);
        x.split();
        x.draw(1, 2);
        Rows.dueDrawn(x, 3, 1, 2);
        // A SEED of 3 leaves three where they are.
        x.draw(1, 3);
        Rows.dueDrawn(x, 1, 2, 3);
    }

    private static void drawnDownToOne() {
        Check.part("from the last place down to 1; modulo i + 1");
        dueDraw(1, 0, 0);
        dueDraw(1, -1, 0);
        dueDraw(2, 0, 0, 1);
        dueDraw(2, 1, 1, 0);
        dueDraw(3, 0, 1, 0, 2);
        dueDraw(3, 2, 2, 0, 1);
        dueDraw(3, Long.MAX_VALUE, 2, 1, 0);
        dueDraw(24, 0, 20, 7, 4, 2, 21, 19, 11, 13, 3, 10, 15, 12, 18, 1, 9, 0, 14, 8, 6, 5, 22, 17, 16, 23);
        dueDraw(0, 0);
    }

    private static void drawnModuloTwoToThe64() {
        Check.part("modulo 2 to the 64");
        List<Integer> all = new ArrayList<>();
        for (int test = 0; test < 24; test++) {
            all.add(test);
        }
        long[] seeds = {Long.MAX_VALUE, Long.MAX_VALUE - 1, Long.MIN_VALUE, Long.MIN_VALUE + 1, -1, -2, 1, 2, 1L << 31,
            1L << 32, (1L << 32) - 1, 1L << 33, -(1L << 33)};
        for (long seed : seeds) {
            dueDraw(24, seed, Rows.drawnByHand(all, seed));
        }
        dueDraw(24, -1, 10, 23, 13, 12, 5, 14, 6, 1, 19, 11, 0, 15, 21, 22, 18, 8, 17, 3, 20, 4, 2, 7, 9, 16);
    }

    private static void drawnWithoutSign() {
        Check.part("without sign");
        // With SEEDS 2 and -1 the highest bit of x is set, with 1 and 3 it is not.
        dueDraw(2, 2, 1, 0);
        dueDraw(2, -1, 1, 0);
        dueDraw(2, Long.MIN_VALUE, 0, 1);
        dueDraw(2, 1, 1, 0);
        dueDraw(2, 3, 0, 1);
        dueDraw(3, -1, 0, 2, 1);
        dueDraw(3, Long.MIN_VALUE, 1, 2, 0);
    }

    private static void resultsOfTheLatestSplit() {
        Check.part("RESULTS belong to the latest SPLIT; at most one, from its SHARD");
        ShardRows x = Rows.split(2, 5, 5);
        Check.due("result(1, 1, 0)", x.result(1, 1, 0), 1);
        Check.due("result(1, 1, 0) once more", x.result(1, 1, 0), 0);
        x.shards(1);
        Check.due("result(0, 0, 0) before the next split", x.result(0, 0, 0), 1);
        x.split();
        Check.due("result(1, 1, 0) from the SHARD it had", x.result(1, 1, 0), -1);
        Check.due("result(1, 0, 0) from its SHARD now", x.result(1, 0, 0), 1);
        x.shards(2);
        x.split();
        Check.due("result(1, 0, 0) from the SHARD it had", x.result(1, 0, 0), -2);
        Check.due("result(1, 1, 0) from its SHARD now", x.result(1, 1, 0), 1);
    }

    private static void resultOfZeroIsGood() {
        Check.part("a RESULT of 0 is good");
        for (int its : new int[] {Rows.LOW, -1, 0, 1, 1 << 8, 1 << 16, Rows.HIGH}) {
            ShardRows x = Rows.split(1, 5);
            x.result(0, 0, its);
            Check.due("verdict() of " + its, x.verdict(), its == 0 ? 1 : 2);
            Check.due("again(0) of " + its, x.again(0), its != 0);
        }
    }

    private static void fullOfTests() {
        Check.part("24 TESTS");
        ShardRows x = Rows.alike(4, 24, 100000);
        Check.due("split()", x.split(), 600000);
        x.shards(1);
        Rows.dueSplit(x, 2400000, 18);
        Check.due("draw(0, 5)", x.draw(0, 5), 24);
        boolean[] seen = new boolean[24];
        for (int i = 0; i < 24; i++) {
            int test = x.drawn(i);
            Check.due("drawn(" + i + ") is new", test >= 0 && test < 24 && !seen[test], true);
            if (test >= 0 && test < 24) {
                seen[test] = true;
                Check.due("result(" + test + ", 0, 0)", x.result(test, 0, 0), 1);
            }
        }
        Check.due("verdict()", x.verdict(), 1);
    }

    private static void usedFor512Calls() {
        Check.part("at most 512 calls");
        ShardRows x = Rows.split(2, 5);
        for (int call = 3; call <= 509; call += 2) {
            x.result(0, 0, call);
            x.again(0);
        }
        x.result(0, 0, 0);
        Check.due("tries(0) as the 512th call", x.tries(0), 255);
        x = Rows.split(2, 5);
        for (int call = 3; call <= 511; call++) {
            x.result(0, 1, 0);
        }
        Check.due("strange() as the 512th call", x.strange(), 509);
        x = Rows.with(4, 8, 7, 6, 5, 5, 4, 3, 2);
        for (int call = 9; call <= 511; call++) {
            x.split();
        }
        Check.due("split() as the 512th call", x.split(), 10);
        x = Rows.split(1, 5, 5, 5);
        for (int call = 5; call <= 510; call++) {
            x.draw(0, call);
        }
        x.draw(0, 2);
        Check.due("drawn(0) as the 512th call", x.drawn(0), 2);
    }
}
