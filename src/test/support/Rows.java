import java.math.BigInteger;
import java.util.ArrayList;
import java.util.List;
import java.util.function.IntUnaryOperator;

/** Objects made ready for a test, and looks at many answers at once. */
final class Rows {
    static final int NONE = -1;
    static final int LOW = Integer.MIN_VALUE;
    static final int HIGH = Integer.MAX_VALUE;

    private Rows() {
    }

    static ShardRows with(int k, int... times) {
        ShardRows x = new ShardRows(k);
        for (int time : times) {
            x.test(time);
        }
        return x;
    }

    static ShardRows split(int k, int... times) {
        ShardRows x = with(k, times);
        x.split();
        return x;
    }

    static ShardRows alike(int k, int tests, int time) {
        ShardRows x = new ShardRows(k);
        for (int i = 0; i < tests; i++) {
            x.test(time);
        }
        return x;
    }

    /** Joins the TESTS named to the first of them. */
    static void join(ShardRows x, int first, int... others) {
        for (int other : others) {
            x.join(first, other);
        }
    }

    static void dueShards(ShardRows x, int... want) {
        dueRow("shard", x::shard, want);
    }

    static void dueSums(ShardRows x, int... want) {
        dueWholeRow("sum", x::sum, want);
    }

    static void dueDrawn(ShardRows x, int... want) {
        dueWholeRow("drawn", x::drawn, want);
    }

    static void dueMissing(ShardRows x, int... want) {
        dueWholeRow("missing", x::missing, want);
    }

    static void dueEmpty(ShardRows x, int... want) {
        dueWholeRow("empty", x::empty, want);
    }

    /** Splits: its LENGTH, how many are MOVED, and where the TESTS are then. */
    static void dueSplit(ShardRows x, int length, int moved, int... shards) {
        Check.due("split()", x.split(), length);
        Check.due("moved()", x.moved(), moved);
        dueShards(x, shards);
    }

    private static void dueRow(String name, IntUnaryOperator ask, int... want) {
        for (int i = 0; i < want.length; i++) {
            Check.due(name + "(" + i + ")", ask.applyAsInt(i), want[i]);
        }
    }

    private static void dueWholeRow(String name, IntUnaryOperator ask, int... want) {
        dueRow(name, ask, want);
        Check.due(name + "(" + want.length + ") after the last", ask.applyAsInt(want.length), NONE);
    }

    static int countShards(ShardRows x) {
        int n = 0;
        while (n < 10 && x.sum(n) != NONE) {
            n++;
        }
        return n;
    }

    /** DRAWN by the document's words, in whole numbers without a bound. */
    static int[] drawnByHand(List<Integer> tests, long seed) {
        BigInteger whole = BigInteger.ONE.shiftLeft(64);
        BigInteger factor = new BigInteger("6364136223846793005");
        BigInteger addend = new BigInteger("1442695040888963407");
        List<Integer> order = new ArrayList<>(tests);
        BigInteger x = BigInteger.valueOf(seed).mod(whole);
        for (int i = order.size() - 1; i >= 1; i--) {
            x = x.multiply(factor).add(addend).mod(whole);
            int j = x.shiftRight(33).mod(BigInteger.valueOf(i + 1)).intValue();
            int held = order.get(i);
            order.set(i, order.get(j));
            order.set(j, held);
        }
        return order.stream().mapToInt(t -> t).toArray();
    }

    /** All that can be asked without changing a thing, in one text; it takes 115 calls. */
    static String state(ShardRows x) {
        StringBuilder text = new StringBuilder();
        text.append("mean ").append(x.mean()).append(" groups ").append(x.groups());
        text.append(" moved ").append(x.moved()).append(" strange ").append(x.strange());
        text.append(" verdict ").append(x.verdict()).append(" sum,empty");
        for (int i = 0; i < 5; i++) {
            text.append(' ').append(x.sum(i)).append(',').append(x.empty(i));
        }
        text.append(" shard,missing,drawn,tries");
        for (int i = 0; i < 25; i++) {
            text.append(' ').append(x.shard(i)).append(',').append(x.missing(i));
            text.append(',').append(x.drawn(i)).append(',').append(x.tries(i));
        }
        return text.toString();
    }
}
