import java.util.NoSuchElementException;

/** What the tests of boundary cases share: ends of ranges, limits, and that a refused call changes nothing. */
final class Bounds {
    static final int NONE = -1;
    /** What look tells here when it throws its exception. */
    static final long THROWN = Long.MIN_VALUE;
    /** A boolean answer as Call tells it. */
    static final long NO = 0;
    static final long YES = 1;

    private static final int[] FAR = {Integer.MIN_VALUE, Integer.MIN_VALUE + 1, Integer.MAX_VALUE - 1, Integer.MAX_VALUE};

    private Bounds() {
    }

    /** One call with one of its arguments left open; a boolean is told as YES or NO. */
    interface Call {
        long on(WaterCarts x, int value);
    }

    interface Maker {
        WaterCarts make();
    }

    static long told(boolean answer) {
        return answer ? YES : NO;
    }

    static long look(WaterCarts x, int village, int what) {
        try {
            return x.look(village, what);
        } catch (NoSuchElementException e) {
            return THROWN;
        }
    }

    /** Both ends of a range are not refused; the first number beyond each end is, and so are those far off. */
    static void range(String name, Maker maker, Call call, int low, int high, long refusal) {
        taken(name, maker, call, low, refusal);
        taken(name, maker, call, high, refusal);
        refused(name, maker, call, low - 1, refusal);
        refused(name, maker, call, high + 1, refusal);
        for (int far : FAR) {
            refused(name, maker, call, far, refusal);
        }
    }

    private static void taken(String name, Maker maker, Call call, int value, long refusal) {
        Check.due(name + " refuses " + value, call.on(maker.make(), value) == refusal, false);
    }

    private static void refused(String name, Maker maker, Call call, int value, long refusal) {
        refused(name + " of " + value, maker.make(), call, value, refusal);
    }

    /** The call is refused, and all that can be asked for is as it was. */
    static void refused(String name, WaterCarts x, Call call, int value, long refusal) {
        String ahead = state(x);
        Check.due(name, call.on(x, value), refusal);
        String behind = state(x);
        Check.due(name + " changes nothing: " + ahead + " became " + behind, behind.equals(ahead), true);
    }

    /** The numbers from 0 on are given out up to the limit; one more is refused and changes nothing. */
    static void atMost(String name, WaterCarts x, Call call, int most) {
        for (int i = 0; i < most; i++) {
            Check.due(name + ", number of " + i, call.on(x, i), i);
        }
        refused(name + ", one more than " + most, x, call, most, NONE);
    }

    /** Every answer that asks and changes nothing, one behind the other. */
    static String state(WaterCarts x) {
        StringBuilder told = new StringBuilder();
        for (int what = 0; what <= 9; what++) {
            told.append(x.count(what)).append(' ');
        }
        for (int village = 0; village < x.count(0); village++) {
            told.append("| ").append(x.want(village)).append(' ').append(x.planned(village)).append(' ');
            told.append(x.foretold(village)).append(' ').append(x.share(village)).append(' ');
            for (int what = 2; what <= 8; what++) {
                told.append(look(x, village, what)).append(' ');
            }
        }
        for (int spring = 0; spring < x.count(1); spring++) {
            told.append("| ").append(x.flows(spring, 0)).append(' ').append(x.flows(spring, 1)).append(' ');
        }
        for (int tanker = 0; tanker < x.count(2); tanker++) {
            told.append("| ").append(x.isShort(tanker)).append(' ').append(x.goes(tanker, 1)).append(' ');
        }
        return told.append("| ").append(x.plan(2)).append(' ').append(x.best(9999)).toString();
    }
}
