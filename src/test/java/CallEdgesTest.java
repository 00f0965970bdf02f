import java.util.List;

/** Each sentence of promises 1 to 20 that names a boundary or a refused call, on both its sides. */
public final class CallEdgesTest {
    private static final int NONE = Rows.NONE;
    private static final int LOW = Rows.LOW;
    private static final int HIGH = Rows.HIGH;
    // No TEST or SHARD ever has such a number.
    private static final int[] NEVER = {LOW, -2, -1, 24, 25, HIGH};

    public static void main(String[] args) {
        madeBelowOne();
        madeAboveFour();
        madeWithoutTests();
        testOfTimeZeroHasNone();
        testNoneIfThereAre24();
        testNoneIfTimeIsOut();
        timeZeroIsNone();
        timeFalseIfNoneSuch();
        timeFalseIfOut();
        joinFalseIfNoneSuch();
        joinFalseIfAlready();
        joinFalseWithItself();
        shardsFalseIfOut();
        shardsFromTheNextSplitOn();
        meanAsByNow();
        groupsAsByNow();
        splitResultsGo();
        splitZeroWithoutTests();
        shardNoneIfNoSplit();
        shardNoneIfItCameLater();
        shardNoneIfNoneSuch();
        sumNoneIfNoneSuch();
        sumNoneIfNoSplit();
        sumByTheLatestSplit();
        movedByTheLatestSplit();
        emptyByTheLatestSplit();
        emptyNoneIfNoneSuch();
        drawByTheLatestSplit();
        drawNoneIfNoneSuch();
        drawnOfTheLatestThatWasNotNone();
        drawnNoneIfNoneSuch();
        resultOfNoneSuch();
        resultWithoutAShard();
        resultStrange();
        resultIfItHasOne();
        againDropsWhatIsNotGood();
        againFalseIfNoneSuch();
        strangeSinceTheLatestSplit();
        missingHasAShardAndNoResult();
        missingNoneIfNoneSuch();
        verdictSomeMissing();
        verdictAllGood();
        verdictNoneIfNoSplit();
        triesWithDroppedOnes();
        triesZeroIfNoneSuch();
        refusedCallsChangeNothing();
        Check.end();
    }

    private static void dueShardCount(int made, int want) {
        ShardRows x = Rows.split(made);
        Check.due("SHARDS of ShardRows(" + made + ")", Rows.countShards(x), want);
    }

    private static void madeBelowOne() {
        Check.part("1: below 1: 1");
        for (int made : new int[] {LOW, LOW + 1, -4, -1, 0, 1}) {
            dueShardCount(made, 1);
        }
        dueShardCount(2, 2);
    }

    private static void madeAboveFour() {
        Check.part("1: above 4: 4");
        dueShardCount(3, 3);
        for (int made : new int[] {4, 5, 6, HIGH - 1, HIGH}) {
            dueShardCount(made, 4);
        }
    }

    private static void madeWithoutTests() {
        Check.part("1: no TESTS");
        ShardRows x = new ShardRows(3);
        Check.due("groups()", x.groups(), 0);
        Check.due("time(0, 1)", x.time(0, 1), false);
        Check.due("join(0, 0)", x.join(0, 0), false);
        Check.due("shard(0)", x.shard(0), NONE);
        Check.due("test(1)", x.test(1), 0);
        Check.due("groups()", x.groups(), 1);
    }

    private static void testOfTimeZeroHasNone() {
        Check.part("2: a TIME of 0: it has none");
        ShardRows x = Rows.with(1, 8, 0);
        Check.due("mean() is not made less by it", x.mean(), 8);
        Check.due("split() counts the MEAN for it", x.split(), 16);
        x = Rows.with(1, 8, 1);
        Check.due("mean() with a TIME of 1", x.mean(), 5);
        Check.due("split() with a TIME of 1", x.split(), 9);
    }

    private static void testNoneIfThereAre24() {
        Check.part("2: NONE if there are 24");
        ShardRows x = Rows.alike(2, 23, 1);
        Check.due("groups()", x.groups(), 23);
        Check.due("the 24th", x.test(100000), 23);
        for (int time : new int[] {0, 1, 100000, -1, 100001}) {
            Check.due("the 25th, test(" + time + ")", x.test(time), NONE);
        }
        Check.due("groups()", x.groups(), 24);
        Check.due("mean()", x.mean(), 4168);
        x.split();
        x.join(0, 1);
        Check.due("the 25th after a split and a join", x.test(1), NONE);
        Check.due("shard(23)", x.shard(23), 0);
        Check.due("shard(24)", x.shard(24), NONE);
    }

    private static void testNoneIfTimeIsOut() {
        Check.part("2: NONE if the TIME isn't 0 .. 100000");
        ShardRows x = new ShardRows(2);
        int number = 0;
        for (int time : new int[] {0, 1, 99999, 100000}) {
            for (int wrong : new int[] {LOW, -100000, -1, 100001, HIGH}) {
                Check.due("test(" + wrong + ")", x.test(wrong), NONE);
            }
            Check.due("test(" + time + "): wrong ones take no number", x.test(time), number);
            number++;
        }
        Check.due("groups()", x.groups(), 4);
        Check.due("mean()", x.mean(), 66667);
    }

    private static void timeZeroIsNone() {
        Check.part("3: 0: none");
        ShardRows x = Rows.with(1, 8, 2);
        Check.due("time(1, 0)", x.time(1, 0), true);
        Check.due("mean()", x.mean(), 8);
        Check.due("split()", x.split(), 16);
        Check.due("time(1, 1)", x.time(1, 1), true);
        Check.due("mean()", x.mean(), 5);
        Check.due("split()", x.split(), 9);
    }

    private static void timeFalseIfNoneSuch() {
        Check.part("3: false if there is none such");
        ShardRows x = Rows.with(2, 3, 3);
        Check.due("time(2, 9)", x.time(2, 9), false);
        for (int never : NEVER) {
            Check.due("time(" + never + ", 9)", x.time(never, 9), false);
        }
        Check.due("mean()", x.mean(), 3);
        Check.due("time(0, 9)", x.time(0, 9), true);
        Check.due("time(1, 9)", x.time(1, 9), true);
        Check.due("mean()", x.mean(), 9);
        x.test(0);
        Check.due("time(2, 9) as soon as it is there", x.time(2, 9), true);
        x = Rows.alike(2, 24, 1);
        Check.due("time(23, 24)", x.time(23, 24), true);
        Check.due("time(24, 24)", x.time(24, 24), false);
        Check.due("mean()", x.mean(), 2);
    }

    private static void timeFalseIfOut() {
        Check.part("3: false if it isn't 0 .. 100000");
        ShardRows x = Rows.with(1, 7);
        for (int time : new int[] {1, 100000, 99999}) {
            Check.due("time(0, " + time + ")", x.time(0, time), true);
            for (int wrong : new int[] {LOW, -1, 100001, HIGH}) {
                Check.due("time(0, " + wrong + ")", x.time(0, wrong), false);
            }
            Check.due("mean(): wrong ones change no TIME", x.mean(), time);
        }
        Check.due("time(0, 0)", x.time(0, 0), true);
        Check.due("mean()", x.mean(), 1);
    }

    private static void joinFalseIfNoneSuch() {
        Check.part("4: false if there are none such");
        ShardRows x = Rows.with(2, 1, 1);
        Check.due("join(1, 2)", x.join(1, 2), false);
        Check.due("join(2, 1)", x.join(2, 1), false);
        Check.due("join(2, 3)", x.join(2, 3), false);
        Check.due("join(2, 2)", x.join(2, 2), false);
        for (int never : NEVER) {
            Check.due("join(0, " + never + ")", x.join(0, never), false);
            Check.due("join(" + never + ", 0)", x.join(never, 0), false);
            Check.due("join(" + never + ", " + never + ")", x.join(never, never), false);
        }
        x.test(1);
        Check.due("groups()", x.groups(), 3);
        Check.due("join(1, 2) as soon as it is there", x.join(1, 2), true);
        x = Rows.alike(2, 24, 1);
        Check.due("join(0, 24)", x.join(0, 24), false);
        Check.due("join(0, 23)", x.join(0, 23), true);
    }

    private static void joinFalseIfAlready() {
        Check.part("4: false if they do already");
        ShardRows x = Rows.alike(2, 5, 1);
        Check.due("join(3, 1)", x.join(3, 1), true);
        Check.due("join(3, 1) once more", x.join(3, 1), false);
        Check.due("join(1, 3)", x.join(1, 3), false);
        Check.due("join(0, 4)", x.join(0, 4), true);
        Check.due("join(4, 3), two GROUPS of two", x.join(4, 3), true);
        for (int[] pair : new int[][] {{0, 1}, {1, 0}, {0, 3}, {1, 4}, {4, 1}, {3, 4}}) {
            Check.due("join(" + pair[0] + ", " + pair[1] + ")", x.join(pair[0], pair[1]), false);
        }
        Check.due("groups()", x.groups(), 2);
        Check.due("join(2, 0), the one left", x.join(2, 0), true);
        x.split();
        Check.due("join(2, 4) after a split", x.join(2, 4), false);
    }

    private static void joinFalseWithItself() {
        Check.part("4: a TEST with itself, too");
        ShardRows x = Rows.alike(2, 3, 1);
        x.join(1, 2);
        for (int test = 0; test < 3; test++) {
            Check.due("join(" + test + ", " + test + ")", x.join(test, test), false);
        }
        Check.due("groups()", x.groups(), 2);
        Check.due("join(0, 1), no TEST with itself", x.join(0, 1), true);
    }

    private static void shardsFalseIfOut() {
        Check.part("5: false if it isn't 1 .. 4");
        for (int k = 1; k <= 4; k++) {
            ShardRows x = new ShardRows(5 - k);
            Check.due("shards(" + k + ")", x.shards(k), true);
            for (int wrong : new int[] {LOW, -1, 0, 5, 6, HIGH}) {
                Check.due("shards(" + wrong + ")", x.shards(wrong), false);
            }
            x.split();
            Check.due("SHARDS after shards(" + k + ") and wrong ones", Rows.countShards(x), k);
        }
    }

    private static void shardsFromTheNextSplitOn() {
        Check.part("5: from the next SPLIT on");
        ShardRows x = Rows.split(2, 4, 4);
        x.shards(4);
        Rows.dueSums(x, 4, 4);
        Rows.dueEmpty(x);
        Check.due("draw(2, 1)", x.draw(2, 1), NONE);
        Check.due("result(0, 2, 0)", x.result(0, 2, 0), -1);
        x.split();
        Rows.dueSums(x, 4, 4, 0, 0);
        Rows.dueEmpty(x, 2, 3);
        Check.due("draw(2, 1)", x.draw(2, 1), 0);
        Check.due("result(0, 2, 0)", x.result(0, 2, 0), -2);
        x.shards(1);
        Rows.dueSums(x, 4, 4, 0, 0);
        Check.due("draw(1, 1)", x.draw(1, 1), 1);
        Check.due("result(1, 1, 0)", x.result(1, 1, 0), 1);
        x.split();
        Rows.dueSums(x, 8);
        x.shards(2);
        x.shards(3);
        x.split();
        Check.due("SHARDS: the latest of two", Rows.countShards(x), 3);
    }

    private static void meanAsByNow() {
        Check.part("6: as by now");
        ShardRows x = Rows.split(1, 4);
        Check.due("mean()", x.mean(), 4);
        x.test(9);
        Check.due("mean() with one more, unsplit", x.mean(), 7);
        x.time(0, 1);
        Check.due("mean() after time, unsplit", x.mean(), 5);
        x.join(0, 1);
        Check.due("mean() is of TESTS, not of GROUPS", x.mean(), 5);
        x.split();
        Check.due("mean() after a split", x.mean(), 5);
    }

    private static void groupsAsByNow() {
        Check.part("7: as by now");
        ShardRows x = Rows.split(1);
        Check.due("groups() without TESTS", x.groups(), 0);
        for (int i = 1; i <= 24; i++) {
            x.test(1);
            Check.due("groups() of " + i, x.groups(), i);
        }
        for (int i = 1; i < 24; i++) {
            x.join(i, i - 1);
            Check.due("groups() after " + i + " joins", x.groups(), 24 - i);
        }
        x.join(0, 23);
        Check.due("groups() after a refused join", x.groups(), 1);
    }

    private static void splitResultsGo() {
        Check.part("8: RESULTS go");
        ShardRows x = Rows.split(2, 5, 5);
        x.result(0, 0, 0);
        x.result(1, 1, 6);
        x.result(0, 1, 6);
        Rows.dueMissing(x);
        Check.due("split() that moves none", x.split(), 5);
        Check.due("moved()", x.moved(), 0);
        Rows.dueMissing(x, 0, 1);
        Check.due("again(1)", x.again(1), false);
        Check.due("verdict()", x.verdict(), 0);
        Check.due("strange()", x.strange(), 0);
        Check.due("tries(0)", x.tries(0), 0);
        Check.due("result(1, 1, 0) is no doubled one", x.result(1, 1, 0), 1);
        Check.due("result(0, 0, 0) is no doubled one", x.result(0, 0, 0), 1);
        Check.due("verdict()", x.verdict(), 1);
    }

    private static void splitZeroWithoutTests() {
        Check.part("8: 0 without TESTS");
        for (int k = 1; k <= 4; k++) {
            ShardRows x = new ShardRows(k);
            Check.due("split() over " + k, x.split(), 0);
            Check.due("split() over " + k + " once more", x.split(), 0);
            Check.due("moved()", x.moved(), 0);
            x.test(0);
            Check.due("split() of one without a TIME", x.split(), 1);
            x.time(0, 100000);
            Check.due("split() of one", x.split(), 100000);
        }
    }

    private static void shardNoneIfNoSplit() {
        Check.part("9: NONE if there was no SPLIT");
        ShardRows x = Rows.with(2, 5, 5);
        Rows.dueShards(x, NONE, NONE);
        x.split();
        Rows.dueShards(x, 0, 1);
    }

    private static void shardNoneIfItCameLater() {
        Check.part("9: NONE if it came later");
        ShardRows x = Rows.split(2, 5);
        x.test(5);
        Rows.dueShards(x, 0, NONE);
        x.join(0, 1);
        Rows.dueShards(x, 0, NONE);
        x.split();
        Rows.dueShards(x, 0, 0);
    }

    private static void shardNoneIfNoneSuch() {
        Check.part("9: NONE if there is none such");
        ShardRows x = Rows.split(2, 5, 5);
        Rows.dueShards(x, 0, 1, NONE);
        for (int never : NEVER) {
            Check.due("shard(" + never + ")", x.shard(never), NONE);
        }
        x = Rows.alike(1, 24, 5);
        x.split();
        Check.due("shard(23)", x.shard(23), 0);
        Check.due("shard(24)", x.shard(24), NONE);
    }

    private static void sumNoneIfNoneSuch() {
        Check.part("10: NONE if there is none such");
        for (int k = 1; k <= 4; k++) {
            ShardRows x = Rows.split(k, 6, 6, 6, 6);
            for (int shard = 0; shard < k; shard++) {
                Check.due("sum(" + shard + ") of " + k + " is none", x.sum(shard) == NONE, false);
            }
            Check.due("sum(" + k + ") of " + k, x.sum(k), NONE);
            for (int never : NEVER) {
                Check.due("sum(" + never + ")", x.sum(never), NONE);
            }
        }
        Rows.dueSums(Rows.split(3, 6), 6, 0, 0);
    }

    private static void sumNoneIfNoSplit() {
        Check.part("10: NONE if there was no SPLIT");
        ShardRows x = Rows.with(4, 6);
        x.shards(3);
        for (int shard = 0; shard < 4; shard++) {
            Check.due("sum(" + shard + ")", x.sum(shard), NONE);
        }
        x.split();
        Rows.dueSums(x, 6, 0, 0);
        Rows.dueSums(Rows.split(2), 0, 0);
    }

    private static void sumByTheLatestSplit() {
        Check.part("10: by the latest SPLIT");
        ShardRows x = Rows.split(2, 5, 0);
        Rows.dueSums(x, 5, 5);
        x.time(0, 9);
        x.test(100);
        x.join(0, 1);
        Rows.dueSums(x, 5, 5);
        x.split();
        Rows.dueSums(x, 64, 100);
    }

    private static void movedByTheLatestSplit() {
        Check.part("11: by the latest SPLIT");
        ShardRows x = Rows.with(3, 5, 5, 5);
        Check.due("moved() before a split", x.moved(), 0);
        x.split();
        Check.due("moved() by the first split", x.moved(), 0);
        x.shards(1);
        x.time(0, 6);
        Check.due("moved() before the next split", x.moved(), 0);
        x.split();
        Check.due("moved()", x.moved(), 2);
        x.shards(3);
        x.result(0, 0, 0);
        Check.due("moved() until the next split", x.moved(), 2);
        x.shards(1);
        x.split();
        Check.due("moved() by a split that moves none", x.moved(), 0);
    }

    private static void emptyByTheLatestSplit() {
        Check.part("12: without TESTS by the latest SPLIT");
        ShardRows x = Rows.split(3, 5);
        Rows.dueEmpty(x, 1, 2);
        x.test(5);
        x.test(5);
        x.shards(4);
        Rows.dueEmpty(x, 1, 2);
        x.split();
        Rows.dueEmpty(x, 3);
        x.test(5);
        x.split();
        Rows.dueEmpty(x);
        Rows.join(x, 0, 1, 2, 3);
        Rows.dueEmpty(x);
        x.split();
        Rows.dueEmpty(x, 1, 2, 3);
    }

    private static void emptyNoneIfNoneSuch() {
        Check.part("12: NONE if there is none such");
        ShardRows x = new ShardRows(4);
        Rows.dueEmpty(x);
        x.split();
        Rows.dueEmpty(x, 0, 1, 2, 3);
        x.test(1);
        x.split();
        Rows.dueEmpty(x, 1, 2, 3);
        for (int wrong : new int[] {LOW, -2, -1, 3, 4, HIGH}) {
            Check.due("empty(" + wrong + ")", x.empty(wrong), NONE);
        }
        Rows.dueEmpty(Rows.split(1, 1));
    }

    private static void drawByTheLatestSplit() {
        Check.part("13: by the latest SPLIT");
        ShardRows x = Rows.split(2, 5, 5);
        x.test(5);
        x.join(0, 1);
        Check.due("draw(0, 3)", x.draw(0, 3), 1);
        Rows.dueDrawn(x, 0);
        x.split();
        Check.due("draw(0, 3)", x.draw(0, 3), 2);
        Rows.dueDrawn(x, 0, 1);
        Check.due("draw(1, 3)", x.draw(1, 3), 1);
        Rows.dueDrawn(x, 2);
    }

    private static void drawNoneIfNoneSuch() {
        Check.part("13: NONE if there is none such");
        ShardRows x = Rows.with(3, 5);
        Check.due("draw(0, 0) before a split", x.draw(0, 0), NONE);
        x.split();
        Check.due("draw(0, 0)", x.draw(0, 0), 1);
        Check.due("draw(2, 0) of a SHARD without TESTS", x.draw(2, 0), 0);
        Check.due("draw(3, 0)", x.draw(3, 0), NONE);
        for (int never : NEVER) {
            Check.due("draw(" + never + ", 0)", x.draw(never, 0), NONE);
        }
        x = Rows.split(4, 5);
        Check.due("draw(3, 0) of four", x.draw(3, 0), 0);
        Check.due("draw(4, 0) of four", x.draw(4, 0), NONE);
    }

    private static void drawnOfTheLatestThatWasNotNone() {
        Check.part("14: of the latest draw that wasn't NONE");
        ShardRows x = Rows.split(2, 9, 3, 3, 3);
        x.draw(1, 2);
        Rows.dueDrawn(x, 3, 1, 2);
        x.draw(2, 2);
        x.draw(-1, 2);
        Rows.dueDrawn(x, 3, 1, 2);
        x.draw(0, 2);
        Rows.dueDrawn(x, 0);
        x.draw(1, 3);
        Rows.dueDrawn(x, 1, 2, 3);
        x.shards(4);
        x.split();
        Rows.dueDrawn(x, 1, 2, 3);
        Rows.join(x, 0, 1, 2, 3);
        x.split();
        Check.due("draw of a SHARD without TESTS", x.draw(x.empty(0), 2), 0);
        Rows.dueDrawn(x);
        x.draw(4, 2);
        Rows.dueDrawn(x);
    }

    private static void drawnNoneIfNoneSuch() {
        Check.part("14: NONE if there is none such");
        ShardRows x = Rows.with(1, 3, 3, 3);
        Rows.dueDrawn(x);
        x.split();
        Rows.dueDrawn(x);
        x.draw(0, 1);
        Rows.dueDrawn(x, 0, 1, 2);
        for (int wrong : new int[] {LOW, -2, -1, 3, 4, 23, 24, 25, HIGH}) {
            Check.due("drawn(" + wrong + ")", x.drawn(wrong), NONE);
        }
        x = Rows.alike(1, 24, 3);
        x.split();
        x.draw(0, 0);
        Check.due("drawn(23)", x.drawn(23), 23);
        Check.due("drawn(24)", x.drawn(24), NONE);
    }

    private static void resultOfNoneSuch() {
        Check.part("15: - 1 if there are none such");
        ShardRows x = Rows.split(2, 5, 5);
        for (int never : NEVER) {
            Check.due("result(" + never + ", 0, 0)", x.result(never, 0, 0), -1);
            Check.due("result(0, " + never + ", 0)", x.result(0, never, 0), -1);
            Check.due("result(" + never + ", " + never + ", 0)", x.result(never, never, 0), -1);
        }
        Check.due("result(2, 0, 0)", x.result(2, 0, 0), -1);
        Check.due("result(2, 1, 0)", x.result(2, 1, 0), -1);
        Check.due("result(0, 2, 0)", x.result(0, 2, 0), -1);
        Check.due("strange(): none of them was", x.strange(), 0);
        Rows.dueMissing(x, 0, 1);
        Check.due("result(0, 0, 0)", x.result(0, 0, 0), 1);
        Check.due("result(0, 2, 0) before doubled", x.result(0, 2, 0), -1);
        Check.due("result(1, 1, 0)", x.result(1, 1, 0), 1);
    }

    private static void resultWithoutAShard() {
        Check.part("15: - 1 if the TEST has no SHARD");
        ShardRows x = Rows.with(2, 5);
        Check.due("result(0, 0, 0) before a split", x.result(0, 0, 0), -1);
        Check.due("result(0, 1, 0) before a split", x.result(0, 1, 0), -1);
        Check.due("result(0, -1, 0) before a split", x.result(0, NONE, 0), -1);
        x.split();
        Check.due("tries(0)", x.tries(0), 0);
        x.test(5);
        Check.due("result(1, 0, 0) of one that came later", x.result(1, 0, 0), -1);
        Check.due("result(1, 1, 0) of one that came later", x.result(1, 1, 0), -1);
        Check.due("result(1, -1, 0) of one that came later", x.result(1, NONE, 0), -1);
        Check.due("strange()", x.strange(), 0);
        x.split();
        Check.due("result(1, 1, 0) when it has one", x.result(1, 1, 0), 1);
    }

    private static void resultStrange() {
        Check.part("15: - 2 if it isn't its SHARD");
        ShardRows x = Rows.split(4, 5, 5);
        for (int shard = 0; shard < 4; shard++) {
            Check.due("result(1, " + shard + ", 0)", x.result(1, shard, 0), shard == 1 ? 1 : -2);
        }
        Check.due("strange()", x.strange(), 3);
        Check.due("result(1, 3, 0): strange, though it has one", x.result(1, 3, 0), -2);
        Check.due("strange()", x.strange(), 4);
        Check.due("result(0, 1, 0)", x.result(0, 1, 0), -2);
        Rows.dueMissing(x, 0);
        Check.due("tries(0)", x.tries(0), 0);
        Check.due("again(0)", x.again(0), false);
        Check.due("result(0, 0, 0) is no doubled one", x.result(0, 0, 0), 1);
    }

    private static void resultIfItHasOne() {
        Check.part("15: 0 if it has one");
        for (int its : new int[] {0, 1, -1, LOW, HIGH}) {
            ShardRows x = Rows.split(1, 5);
            Check.due("result(0, 0, " + its + ")", x.result(0, 0, its), 1);
            Check.due("result(0, 0, 0) doubled", x.result(0, 0, 0), 0);
            Check.due("result(0, 0, 1) doubled", x.result(0, 0, 1), 0);
            Check.due("verdict() by the first of them", x.verdict(), its == 0 ? 1 : 2);
            Check.due("strange()", x.strange(), 0);
        }
        ShardRows x = Rows.split(1, 5, 5);
        x.result(0, 0, 0);
        Check.due("result(1, 0, 0) of another", x.result(1, 0, 0), 1);
    }

    private static void againDropsWhatIsNotGood() {
        Check.part("16: a RESULT that isn't good is dropped");
        for (int its : new int[] {1, -1, 256, 65536, LOW, HIGH}) {
            ShardRows x = Rows.split(1, 5, 5);
            x.result(0, 0, its);
            x.result(1, 0, its);
            Check.due("again(0) of " + its, x.again(0), true);
            Rows.dueMissing(x, 0);
            Check.due("again(0) when it is dropped", x.again(0), false);
            Check.due("result(0, 0, " + its + ")", x.result(0, 0, its), 1);
            Check.due("again(0) of the next", x.again(0), true);
        }
        ShardRows x = Rows.split(1, 5);
        x.result(0, 0, 0);
        Check.due("again(0) of a good one", x.again(0), false);
        Rows.dueMissing(x);
    }

    private static void againFalseIfNoneSuch() {
        Check.part("16: false if there is none such");
        ShardRows x = Rows.with(2, 5, 5);
        Check.due("again(0) before a split", x.again(0), false);
        x.split();
        x.test(5);
        Check.due("again(0) without a RESULT", x.again(0), false);
        x.result(0, 0, 1);
        Check.due("again(1) where another has one", x.again(1), false);
        Check.due("again(2) that came later", x.again(2), false);
        Check.due("again(3)", x.again(3), false);
        for (int never : NEVER) {
            Check.due("again(" + never + ")", x.again(never), false);
        }
        Check.due("again(0)", x.again(0), true);
        x = Rows.alike(1, 24, 5);
        x.split();
        x.result(23, 0, 1);
        Check.due("again(24)", x.again(24), false);
        Check.due("again(23)", x.again(23), true);
    }

    private static void strangeSinceTheLatestSplit() {
        Check.part("17: since the latest SPLIT");
        ShardRows x = Rows.with(2, 5, 5);
        Check.due("strange() before a split", x.strange(), 0);
        x.result(0, 1, 0);
        x.split();
        Check.due("strange() after a split", x.strange(), 0);
        x.result(0, 1, 0);
        x.result(0, 1, 0);
        x.result(0, 0, 1);
        x.result(0, 0, 1);
        x.again(0);
        Check.due("strange(): the same one twice", x.strange(), 2);
        x.shards(3);
        Check.due("strange() before the next split", x.strange(), 2);
        x.split();
        Check.due("strange() after the next split", x.strange(), 0);
        x.result(1, 2, 0);
        Check.due("strange()", x.strange(), 1);
    }

    private static void missingHasAShardAndNoResult() {
        Check.part("18: that has a SHARD and no RESULT");
        ShardRows x = Rows.with(2, 5, 5, 5);
        Rows.dueMissing(x);
        x.split();
        x.test(5);
        Rows.dueMissing(x, 0, 1, 2);
        x.result(1, x.shard(1), 0);
        Rows.dueMissing(x, 0, 2);
        x.result(0, x.shard(0), 1);
        Rows.dueMissing(x, 2);
        x.result(2, 1 - x.shard(2), 0);
        Rows.dueMissing(x, 2);
        x.again(0);
        x.again(1);
        Rows.dueMissing(x, 0, 2);
        x.split();
        Rows.dueMissing(x, 0, 1, 2, 3);
    }

    private static void missingNoneIfNoneSuch() {
        Check.part("18: NONE if there is none such");
        ShardRows x = Rows.split(2);
        Rows.dueMissing(x);
        x = Rows.split(2, 5, 5, 5);
        for (int wrong : new int[] {LOW, -2, -1, 3, 4, 23, 24, HIGH}) {
            Check.due("missing(" + wrong + ")", x.missing(wrong), NONE);
        }
        x = Rows.alike(3, 24, 5);
        x.split();
        Check.due("missing(23)", x.missing(23), 23);
        Check.due("missing(24)", x.missing(24), NONE);
        x.result(0, 0, 0);
        Check.due("missing(22)", x.missing(22), 23);
        Check.due("missing(23)", x.missing(23), NONE);
    }

    private static void verdictSomeMissing() {
        Check.part("19: 0 if some are missing");
        ShardRows x = Rows.alike(1, 24, 5);
        x.split();
        for (int test = 0; test < 24; test++) {
            Check.due("verdict() with " + test + " RESULTS", x.verdict(), 0);
            x.result(test, 0, test == 0 ? 1 : 0);
        }
        Check.due("verdict() with all, one not good", x.verdict(), 2);
        x.again(0);
        Check.due("verdict() with one dropped", x.verdict(), 0);
        x.result(0, 0, 0);
        Check.due("verdict() with all", x.verdict(), 1);
        x.split();
        Check.due("verdict() after a split", x.verdict(), 0);
    }

    private static void verdictAllGood() {
        Check.part("19: else 1 if all RESULTS are good, else 2");
        for (int bad = 0; bad <= 3; bad++) {
            ShardRows x = Rows.split(1, 5, 5, 5);
            for (int test = 0; test < 3; test++) {
                x.result(test, 0, test == bad ? -7 : 0);
            }
            Check.due("verdict() where TEST " + bad + " isn't good", x.verdict(), bad == 3 ? 1 : 2);
            x.test(5);
            Check.due("verdict() with one that came later", x.verdict(), bad == 3 ? 1 : 2);
        }
        ShardRows x = Rows.split(2, 5, 5);
        x.result(0, 1, 1);
        x.result(0, 0, 0);
        x.result(0, 0, 1);
        x.result(1, 1, 0);
        Check.due("verdict(): strange and doubled ones are none", x.verdict(), 1);
    }

    private static void verdictNoneIfNoSplit() {
        Check.part("19: NONE if there was no SPLIT");
        ShardRows x = new ShardRows(2);
        Check.due("verdict() without TESTS", x.verdict(), NONE);
        x.test(5);
        Check.due("verdict() with one", x.verdict(), NONE);
        x.split();
        Check.due("verdict() after a split", x.verdict(), 0);
        Check.due("verdict() of a split without TESTS", Rows.split(2).verdict(), 1);
    }

    private static void triesWithDroppedOnes() {
        Check.part("20: dropped ones, too");
        ShardRows x = Rows.split(2, 5, 5);
        for (int tries = 1; tries <= 9; tries++) {
            x.result(0, 0, tries);
            Check.due("tries(0)", x.tries(0), tries);
            x.result(0, 0, 0);
            x.result(0, 1, 0);
            x.result(0, 2, 0);
            Check.due("tries(0): doubled and strange ones are none", x.tries(0), tries);
            x.again(0);
            Check.due("tries(0) of dropped ones", x.tries(0), tries);
        }
        x.result(0, 0, 0);
        Check.due("tries(0)", x.tries(0), 10);
        Check.due("tries(1)", x.tries(1), 0);
        x.split();
        Check.due("tries(0) since the latest SPLIT", x.tries(0), 0);
    }

    private static void triesZeroIfNoneSuch() {
        Check.part("20: 0 if there is none such");
        ShardRows x = Rows.with(1, 5);
        Check.due("tries(0) before a split", x.tries(0), 0);
        x.split();
        x.test(5);
        x.result(0, 0, 0);
        Check.due("tries(0)", x.tries(0), 1);
        Check.due("tries(1) that came later", x.tries(1), 0);
        Check.due("tries(2)", x.tries(2), 0);
        for (int never : NEVER) {
            Check.due("tries(" + never + ")", x.tries(never), 0);
        }
        x = Rows.alike(1, 24, 5);
        x.split();
        x.result(23, 0, 0);
        Check.due("tries(23)", x.tries(23), 1);
        Check.due("tries(24)", x.tries(24), 0);
    }

    /** Two of a kind, one of which hears refused calls too: they answer alike all along. */
    private static void refusedCallsChangeNothing() {
        Check.part("refused calls");
        for (List<Integer> times : List.of(List.of(5, 0, 7, 2), List.of(3, 9, 0, 4, 4, 1, 8, 0, 6, 5))) {
            ShardRows plain = new ShardRows(3);
            ShardRows vexed = new ShardRows(3);
            for (int time : times) {
                plain.test(time);
                vexed.test(time);
            }
            work(plain);
            work(vexed);
            vex(vexed);
            dueAlike("after refused calls", vexed, plain);
            Check.due("split()", vexed.split(), plain.split());
            dueAlike("after the next split", vexed, plain);
        }
    }

    private static void work(ShardRows x) {
        x.join(0, 2);
        x.split();
        x.draw(0, 11);
        x.result(0, x.shard(0), 0);
        x.result(1, x.shard(1), 4);
        x.result(3, (x.shard(3) + 1) % 3, 4);
        x.time(3, 9);
        x.shards(2);
    }

    private static void vex(ShardRows x) {
        x.test(-1);
        x.test(100001);
        x.time(0, -1);
        x.time(0, 100001);
        x.join(0, 2);
        x.join(1, 1);
        x.shards(0);
        x.shards(5);
        x.draw(3, 12);
        x.again(0);
        x.result(0, x.shard(0), 1);
        x.result(0, 3, 1);
        for (int never : NEVER) {
            x.time(never, 1);
            x.join(never, 0);
            x.join(1, never);
            x.draw(never, 12);
            x.result(never, 0, 1);
            x.result(0, never, 1);
            x.again(never);
        }
    }

    private static void dueAlike(String when, ShardRows got, ShardRows want) {
        String has = Rows.state(got);
        String due = Rows.state(want);
        if (!has.equals(due)) {
            Check.tell(when + " it is\n  " + has + "\ndue is\n  " + due);
        }
    }
}
