import java.util.ArrayList;
import java.util.List;

/** For each promise of the document: ordinary inputs and some wrong ones; the edges have tests of their own. */
public final class PromisesTest {
    private static final int NONE = ShardRows.NONE;
    private static final int LOW = Rows.LOW;
    private static final int HIGH = Rows.HIGH;

    public static void main(String[] args) {
        newObject();
        test();
        time();
        join();
        shards();
        mean();
        groups();
        splitOfFew();
        splitKeepsPlaces();
        splitOfMany();
        shard();
        sum();
        moved();
        empty();
        draw();
        drawn();
        result();
        again();
        strange();
        missing();
        verdict();
        tries();
        Check.end();
    }

    private static void newObject() {
        Check.part("promise 1");
        Check.due("NONE", NONE, -1);
        int[][] due = {{LOW, 1}, {-1, 1}, {0, 1}, {1, 1}, {2, 2}, {3, 3}, {4, 4}, {5, 4}, {HIGH, 4}};
        for (int[] d : due) {
            ShardRows x = new ShardRows(d[0]);
            Check.due("sum(0) before a split", x.sum(0), NONE);
            Check.due("groups()", x.groups(), 0);
            Check.due("mean()", x.mean(), 1);
            Check.due("moved()", x.moved(), 0);
            Check.due("strange()", x.strange(), 0);
            Check.due("verdict()", x.verdict(), NONE);
            Check.due("missing(0)", x.missing(0), NONE);
            Check.due("drawn(0)", x.drawn(0), NONE);
            Check.due("split()", x.split(), 0);
            Check.due("shards of ShardRows(" + d[0] + ")", Rows.countShards(x), d[1]);
            Check.due("test(0)", x.test(0), 0);
        }
    }

    private static void test() {
        Check.part("promise 2");
        ShardRows x = new ShardRows(1);
        for (int wrong : new int[] {-1, 100001, LOW, HIGH}) {
            Check.due("test(" + wrong + ")", x.test(wrong), NONE);
        }
        Check.due("groups()", x.groups(), 0);
        Check.due("test(0)", x.test(0), 0);
        Check.due("mean() of one without a TIME", x.mean(), 1);
        Check.due("test(1)", x.test(1), 1);
        Check.due("test(100000)", x.test(100000), 2);
        for (int i = 3; i < 24; i++) {
            Check.due("test(7)", x.test(7), i);
        }
        Check.due("the 25th test(7)", x.test(7), NONE);
        Check.due("the 25th test(0)", x.test(0), NONE);
        Check.due("groups()", x.groups(), 24);
    }

    private static void time() {
        Check.part("promise 3");
        ShardRows x = Rows.with(1, 5, 9);
        Check.due("time(0, 7)", x.time(0, 7), true);
        Check.due("mean()", x.mean(), 8);
        Check.due("time(0, 7) once more", x.time(0, 7), true);
        Check.due("time(0, 0)", x.time(0, 0), true);
        Check.due("mean()", x.mean(), 9);
        Check.due("time(1, 100000)", x.time(1, 100000), true);
        Check.due("mean()", x.mean(), 100000);
        int[][] wrong = {{0, -1}, {0, 100001}, {2, 5}, {-1, 5}, {24, 5}, {LOW, 5}, {HIGH, 5}, {0, LOW}, {0, HIGH}};
        for (int[] w : wrong) {
            Check.due("time(" + w[0] + ", " + w[1] + ")", x.time(w[0], w[1]), false);
        }
        Check.due("mean()", x.mean(), 100000);
        Check.due("split()", x.split(), 200000);
    }

    private static void join() {
        Check.part("promise 4");
        ShardRows x = Rows.with(4, 1, 1, 1, 1, 1, 1);
        Check.due("join(0, 0)", x.join(0, 0), false);
        int[][] wrong = {{0, 6}, {6, 0}, {-1, 0}, {0, -1}, {24, 0}, {0, 24}, {LOW, HIGH}, {6, 6}, {-1, -1}};
        for (int[] w : wrong) {
            Check.due("join(" + w[0] + ", " + w[1] + ")", x.join(w[0], w[1]), false);
        }
        Check.due("groups()", x.groups(), 6);
        Check.due("join(5, 3)", x.join(5, 3), true);
        Check.due("join(3, 5)", x.join(3, 5), false);
        Check.due("join(1, 4)", x.join(1, 4), true);
        Check.due("join(4, 5)", x.join(4, 5), true);
        Check.due("join(1, 3), by way of others", x.join(1, 3), false);
        Check.due("groups()", x.groups(), 3);
        Check.due("split()", x.split(), 4);
        Rows.dueShards(x, 0, 1, 0, 1, 1, 1);
        x.join(0, 1);
        Rows.dueShards(x, 0, 1, 0, 1, 1, 1);
    }

    private static void shards() {
        Check.part("promise 5");
        ShardRows x = Rows.split(2, 4, 4, 4);
        for (int wrong : new int[] {0, 5, -1, LOW, HIGH}) {
            Check.due("shards(" + wrong + ")", x.shards(wrong), false);
        }
        x.split();
        Check.due("shards after wrong ones", Rows.countShards(x), 2);
        Check.due("shards(3)", x.shards(3), true);
        Check.due("shards before the next split", Rows.countShards(x), 2);
        Check.due("result(0, 2, 0)", x.result(0, 2, 0), -1);
        Check.due("draw(2, 1)", x.draw(2, 1), NONE);
        Check.due("empty(0)", x.empty(0), NONE);
        Check.due("split()", x.split(), 4);
        Check.due("shards after the next split", Rows.countShards(x), 3);
        Check.due("shards(1)", x.shards(1), true);
        Check.due("shards(1) once more", x.shards(1), true);
        Check.due("sum(2) before the next split", x.sum(2), 4);
        Check.due("split()", x.split(), 12);
        Check.due("shards(4)", x.shards(4), true);
        x.split();
        Check.due("shards", Rows.countShards(x), 4);
    }

    private static void mean() {
        Check.part("promise 6");
        Check.due("mean() of none", Rows.with(1).mean(), 1);
        Check.due("mean() of none with TIMES", Rows.with(1, 0, 0).mean(), 1);
        Check.due("mean() rounded up", Rows.with(1, 1, 2, 0).mean(), 2);
        Check.due("mean() rounded up a little", Rows.with(1, 1, 1, 2).mean(), 2);
        Check.due("mean() of a whole one", Rows.with(1, 3, 0, 5).mean(), 4);
        Check.due("mean() of one", Rows.with(1, 100000).mean(), 100000);
        ShardRows x = Rows.with(1);
        for (int i = 0; i < 24; i++) {
            x.test(i == 0 ? 99999 : 100000);
        }
        Check.due("mean() of 24", x.mean(), 100000);
        x.split();
        x.time(0, 100000);
        x.time(1, 1);
        Check.due("mean() by now", x.mean(), 95834);
    }

    private static void groups() {
        Check.part("promise 7");
        ShardRows x = Rows.with(2, 1, 1, 1);
        Check.due("groups()", x.groups(), 3);
        x.split();
        x.join(2, 0);
        Check.due("groups() by now", x.groups(), 2);
        x.join(1, 2);
        Check.due("groups()", x.groups(), 1);
        x.test(4);
        Check.due("groups()", x.groups(), 2);
    }

    private static void splitOfFew() {
        Check.part("promise 8, few");
        Check.due("split() of none", Rows.with(4).split(), 0);
        ShardRows x = Rows.with(2, 3, 3, 2, 2, 2);
        Check.due("split()", x.split(), 6);
        Rows.dueShards(x, 0, 0, 1, 1, 1);
        x = Rows.with(2, 0, 10, 3);
        Check.due("split() with the mean", x.split(), 10);
        Rows.dueShards(x, 0, 1, 0);
        x = Rows.with(3, 1, 1, 1, 9);
        Check.due("split() where the first ones share", x.split(), 9);
        Rows.dueShards(x, 0, 0, 0, 1);
        x = Rows.with(2, 5, 1, 5, 1);
        x.join(0, 2);
        Check.due("split() of GROUPS", x.split(), 10);
        Rows.dueShards(x, 0, 1, 0, 1);
        x = Rows.with(4, 100000);
        for (int i = 1; i < 24; i++) {
            x.test(100000);
            x.join(i, 0);
        }
        Check.due("split() of one GROUP of 24", x.split(), 2400000);
        x = Rows.with(4, 7, 7, 7, 7, 7, 7, 7, 7);
        Check.due("split() of eight", x.split(), 14);
        Rows.dueShards(x, 0, 0, 1, 1, 2, 2, 3, 3);
    }

    private static void splitKeepsPlaces() {
        Check.part("promise 8, few, again");
        // All on SHARD 0 but the last; equal TIMES then make any halves as short.
        ShardRows x = Rows.with(2, 1, 1, 8, 10);
        Check.due("split()", x.split(), 10);
        Rows.dueShards(x, 0, 0, 0, 1);
        x.time(2, 1);
        x.time(3, 1);
        Rows.dueSplit(x, 2, 1, 0, 0, 1, 1);
        // Fewest MOVED counts TESTS: the GROUP of two stays, the lone ones go.
        x = Rows.with(2, 2, 2, 2, 6);
        Check.due("split()", x.split(), 6);
        Rows.dueShards(x, 0, 0, 0, 1);
        x.join(1, 2);
        x.time(3, 0);
        x.time(0, 4);
        Rows.dueSplit(x, 7, 1, 1, 0, 0, 1);
        // The least LENGTH goes before the fewest MOVED.
        x = Rows.split(1, 3, 3, 3, 3);
        x.shards(4);
        Rows.dueSplit(x, 3, 3, 0, 1, 2, 3);
        // Whoever has been on a SHARD that is gone is MOVED wherever it goes.
        x.shards(2);
        Rows.dueSplit(x, 6, 2, 0, 1, 0, 1);
    }

    private static void splitOfMany() {
        Check.part("promise 8, many");
        // A GROUP of 1 and 1 is taken with the 2s, after them by its FIRST.
        ShardRows x = Rows.with(2, 3, 3, 2, 2, 2, 1, 1, 1, 1, 1);
        x.join(7, 8);
        Check.due("groups()", x.groups(), 9);
        Check.due("split()", x.split(), 9);
        Rows.dueShards(x, 0, 1, 0, 1, 0, 0, 1, 1, 1, 0);
        // Ties go to the SHARD that the FIRST had before.
        x = Rows.with(2, 9, 8, 7, 6, 5, 4, 3, 2, 1);
        Check.due("split()", x.split(), 23);
        Rows.dueShards(x, 0, 1, 1, 0, 0, 1, 1, 0, 0);
        for (int i = 0; i < 9; i++) {
            x.time(i, 4);
        }
        Rows.dueSplit(x, 20, 0, 0, 1, 1, 0, 0, 1, 1, 0, 0);
        // The old SHARD counts only if it still is there; if not, the least.
        x = Rows.split(4, 9, 9, 9, 9, 9, 9, 9, 9, 9);
        Rows.dueShards(x, 0, 1, 2, 3, 0, 1, 2, 3, 0);
        x.shards(2);
        Rows.dueSplit(x, 45, 4, 0, 1, 0, 1, 0, 1, 0, 1, 0);
        // SHARD 2 was the last of three and is the first that two do not have.
        x = Rows.split(3, 9, 9, 9, 9, 9, 9, 9, 9, 9, 9);
        x.shards(2);
        x.time(2, 10);
        Check.due("split()", x.split(), 46);
        Rows.dueShards(x, 1, 1, 0, 0, 1, 0, 1, 0, 1, 0);
    }

    private static void shard() {
        Check.part("promise 9");
        ShardRows x = Rows.with(2, 5, 5);
        Check.due("shard(0) before a split", x.shard(0), NONE);
        x.split();
        Rows.dueShards(x, 0, 1);
        x.test(5);
        Check.due("shard(2) that came later", x.shard(2), NONE);
        for (int wrong : new int[] {3, -1, 23, 24, LOW, HIGH}) {
            Check.due("shard(" + wrong + ")", x.shard(wrong), NONE);
        }
        x.shards(1);
        x.join(0, 1);
        Rows.dueShards(x, 0, 1, NONE);
        x.split();
        Rows.dueShards(x, 0, 0, 0);
    }

    private static void sum() {
        Check.part("promise 10");
        ShardRows x = Rows.with(2, 5, 0, 4);
        Check.due("sum(0) before a split", x.sum(0), NONE);
        x.split();
        Check.due("sum(0)", x.sum(0), 5 + 4);
        Check.due("sum(1)", x.sum(1), 5);
        for (int wrong : new int[] {2, 3, 4, -1, LOW, HIGH}) {
            Check.due("sum(" + wrong + ")", x.sum(wrong), NONE);
        }
        x.time(0, 100);
        x.test(9);
        x.join(0, 1);
        x.shards(4);
        Check.due("sum(0) by the latest split", x.sum(0), 9);
        Check.due("sum(1) by the latest split", x.sum(1), 5);
        Check.due("sum(2) by the latest split", x.sum(2), NONE);
    }

    private static void moved() {
        Check.part("promise 11");
        ShardRows x = Rows.with(4, 6, 6, 6, 6);
        Check.due("moved() before a split", x.moved(), 0);
        x.split();
        Check.due("moved() by the first", x.moved(), 0);
        x.shards(1);
        Check.due("moved() before the next", x.moved(), 0);
        x.split();
        Check.due("moved()", x.moved(), 3);
        x.test(6);
        x.shards(2);
        x.split();
        Check.due("moved(): not those that came later", x.moved(), 1);
        Rows.dueShards(x, 0, 0, 0, 1, 1);
        x.split();
        Check.due("moved() by one that moves none", x.moved(), 0);
    }

    private static void empty() {
        Check.part("promise 12");
        ShardRows x = Rows.with(4);
        Check.due("empty(0) before a split", x.empty(0), NONE);
        x.split();
        for (int i = 0; i < 4; i++) {
            Check.due("empty(" + i + ") without TESTS", x.empty(i), i);
        }
        Check.due("empty(4)", x.empty(4), NONE);
        x.test(3);
        Check.due("empty(0) by the latest split", x.empty(0), 0);
        x.test(3);
        x.split();
        Check.due("empty(0)", x.empty(0), 2);
        Check.due("empty(1)", x.empty(1), 3);
        for (int wrong : new int[] {2, -1, LOW, HIGH}) {
            Check.due("empty(" + wrong + ")", x.empty(wrong), NONE);
        }
        // SHARD 0 is left empty where that moves the fewest.
        x = Rows.split(2, 8, 4, 4);
        Rows.dueShards(x, 0, 1, 1);
        x.join(0, 1);
        x.join(1, 2);
        x.split();
        Rows.dueShards(x, 1, 1, 1);
        Check.due("empty(0)", x.empty(0), 0);
        Check.due("empty(1)", x.empty(1), NONE);
    }

    private static void draw() {
        Check.part("promise 13");
        ShardRows x = Rows.with(3);
        Check.due("draw(0, 1) before a split", x.draw(0, 1), NONE);
        x.split();
        Check.due("draw(0, 1) of none", x.draw(0, 1), 0);
        x.test(6);
        Check.due("draw(0, 1) of one that came later", x.draw(0, 1), 0);
        for (int i = 1; i < 24; i++) {
            x.test(6);
        }
        x.split();
        for (int wrong : new int[] {3, 4, -1, LOW, HIGH}) {
            Check.due("draw(" + wrong + ", 1)", x.draw(wrong, 1), NONE);
        }
        long[] seeds = {0, 1, -1, 7, Long.MIN_VALUE, Long.MAX_VALUE, 0x9E3779B97F4A7C15L};
        for (int shard = 0; shard < 3; shard++) {
            List<Integer> tests = new ArrayList<>();
            for (int test = shard; test < 24; test += 3) {
                tests.add(test);
            }
            for (long seed : seeds) {
                Check.due("draw(" + shard + ", " + seed + ")", x.draw(shard, seed), 8);
                int[] want = Rows.drawnByHand(tests, seed);
                for (int i = 0; i < 8; i++) {
                    Check.due("drawn(" + i + ") of seed " + seed, x.drawn(i), want[i]);
                }
            }
        }
    }

    private static void drawn() {
        Check.part("promise 14");
        ShardRows x = Rows.with(2, 9, 3, 3, 3);
        Check.due("drawn(0) before a draw", x.drawn(0), NONE);
        x.split();
        Check.due("drawn(0) before a draw", x.drawn(0), NONE);
        x.draw(1, 5);
        int[] want = Rows.drawnByHand(List.of(1, 2, 3), 5);
        for (int i = 0; i < 3; i++) {
            Check.due("drawn(" + i + ")", x.drawn(i), want[i]);
        }
        for (int wrong : new int[] {3, 23, 24, -1, LOW, HIGH}) {
            Check.due("drawn(" + wrong + ")", x.drawn(wrong), NONE);
        }
        x.draw(2, 6);
        Check.due("drawn(0) after a draw that was NONE", x.drawn(0), want[0]);
        x.shards(1);
        x.split();
        Check.due("drawn(2) after a split", x.drawn(2), want[2]);
        Check.due("drawn(3) after a split", x.drawn(3), NONE);
        x.shards(4);
        x.join(0, 1);
        x.join(0, 2);
        x.join(0, 3);
        x.split();
        Check.due("draw(1, 5) of none", x.draw(1, 5), 0);
        Check.due("drawn(0) of none", x.drawn(0), NONE);
    }

    private static void result() {
        Check.part("promise 15");
        ShardRows x = Rows.with(2, 5, 5);
        Check.due("result(0, 0, 0) before a split", x.result(0, 0, 0), -1);
        x.split();
        x.test(5);
        int[][] wrong = {{2, 0}, {2, 1}, {3, 0}, {-1, 0}, {24, 0}, {0, 2}, {0, -1}, {1, 4}, {LOW, 0}, {HIGH, 1},
            {0, LOW}, {0, HIGH}};
        for (int[] w : wrong) {
            Check.due("result(" + w[0] + ", " + w[1] + ", 0)", x.result(w[0], w[1], 0), -1);
        }
        Check.due("strange()", x.strange(), 0);
        Check.due("result(0, 1, 0)", x.result(0, 1, 0), -2);
        Check.due("result(0, 0, -9)", x.result(0, 0, -9), 1);
        Check.due("result(0, 0, 0), doubled", x.result(0, 0, 0), 0);
        Check.due("result(0, 1, 0), strange before doubled", x.result(0, 1, 0), -2);
        Check.due("result(1, 1, 0)", x.result(1, 1, 0), 1);
        Check.due("verdict(): a doubled one changes nothing", x.verdict(), 2);
    }

    private static void again() {
        Check.part("promise 16");
        ShardRows x = Rows.with(2, 5, 5);
        Check.due("again(0) before a split", x.again(0), false);
        x.split();
        Check.due("again(0) without a RESULT", x.again(0), false);
        x.result(0, 0, 0);
        Check.due("again(0) of a good one", x.again(0), false);
        x.result(1, 1, LOW);
        Check.due("again(1)", x.again(1), true);
        Check.due("again(1) once more", x.again(1), false);
        Check.due("missing(0)", x.missing(0), 1);
        Check.due("result(1, 0, 0): still its SHARD", x.result(1, 0, 0), -2);
        Check.due("result(1, 1, 0)", x.result(1, 1, 0), 1);
        Check.due("again(1) of a good one", x.again(1), false);
        Check.due("verdict()", x.verdict(), 1);
        for (int wrong : new int[] {2, 23, 24, -1, LOW, HIGH}) {
            Check.due("again(" + wrong + ")", x.again(wrong), false);
        }
    }

    private static void strange() {
        Check.part("promise 17");
        ShardRows x = Rows.split(2, 5, 5);
        Check.due("strange()", x.strange(), 0);
        for (int i = 1; i <= 40; i++) {
            x.result(0, 1, i);
            x.result(0, 2, i);
            x.result(2, 1, i);
            Check.due("strange()", x.strange(), i);
        }
        x.result(0, 0, 0);
        x.result(0, 0, 0);
        Check.due("strange() after doubled ones", x.strange(), 40);
        Check.due("tries(0)", x.tries(0), 1);
        x.split();
        Check.due("strange() after a split", x.strange(), 0);
    }

    private static void missing() {
        Check.part("promise 18");
        ShardRows x = Rows.with(2, 5, 5, 5, 5);
        Check.due("missing(0) before a split", x.missing(0), NONE);
        x.split();
        x.test(5);
        for (int i = 0; i < 4; i++) {
            Check.due("missing(" + i + ")", x.missing(i), i);
        }
        for (int wrong : new int[] {4, 24, -1, LOW, HIGH}) {
            Check.due("missing(" + wrong + ")", x.missing(wrong), NONE);
        }
        x.result(1, x.shard(1), 0);
        Check.due("missing(1)", x.missing(1), 2);
        x.result(0, x.shard(0), 4);
        Check.due("missing(0)", x.missing(0), 2);
        Check.due("missing(2)", x.missing(2), NONE);
        x.again(0);
        Check.due("missing(0)", x.missing(0), 0);
    }

    private static void verdict() {
        Check.part("promise 19");
        ShardRows x = new ShardRows(2);
        Check.due("verdict() before a split", x.verdict(), NONE);
        x.split();
        Check.due("verdict() without TESTS", x.verdict(), 1);
        x.test(5);
        Check.due("verdict() with one that came later", x.verdict(), 1);
        x.test(5);
        x.split();
        Check.due("verdict()", x.verdict(), 0);
        x.result(0, 0, 7);
        Check.due("verdict() with one missing", x.verdict(), 0);
        x.result(1, 1, 0);
        Check.due("verdict() with a bad one", x.verdict(), 2);
        x.again(0);
        Check.due("verdict() with a dropped one", x.verdict(), 0);
        x.result(0, 0, 0);
        Check.due("verdict() with good ones", x.verdict(), 1);
    }

    private static void tries() {
        Check.part("promise 20");
        ShardRows x = Rows.with(2, 5, 5);
        Check.due("tries(0) before a split", x.tries(0), 0);
        x.result(0, 0, 1);
        x.split();
        for (int i = 0; i < 5; i++) {
            Check.due("tries(0)", x.tries(0), i);
            x.result(0, 0, 1);
            x.result(0, 0, 1);
            x.result(0, 1, 1);
            Check.due("tries(0)", x.tries(0), i + 1);
            x.again(0);
            Check.due("tries(0) of dropped ones", x.tries(0), i + 1);
        }
        Check.due("tries(1)", x.tries(1), 0);
        for (int wrong : new int[] {2, 23, 24, -1, LOW, HIGH}) {
            Check.due("tries(" + wrong + ")", x.tries(wrong), 0);
        }
        x.split();
        Check.due("tries(0) after a split", x.tries(0), 0);
    }
}
