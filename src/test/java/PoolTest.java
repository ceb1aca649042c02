/** Promises 16 and 17: into, pooled. */
public final class PoolTest {
    public static void main(String[] args) {
        Due.test("16: False when there is none such", PoolTest::intoOfNoHolder);
        Due.test("16: a pool (0 .. 3, or NONE); False when pool is another", PoolTest::poolRange);
        Due.test("16: from now on", PoolTest::fromNowOn);
        Due.test("16: in no pool at first", PoolTest::noPoolAtFirst);
        Due.test("17: NONE when there is no such stock", PoolTest::pooledOfNoStock);
        Due.test("17: NONE when there is no such pool", PoolTest::pooledOfNoPool);
        Due.test("17: LEFT of all holders of a pool together", PoolTest::together);
        Due.test("17: LEFT of all holders (an empty pool, nothing parted)", PoolTest::nothingThere);
        Due.test("17: NONE (which it may be, too)", PoolTest::pooledIsNone);
        Due.test("17: LEFT (without a day: all landings)", PoolTest::pooledOnTheLastDay);
        Due.end();
    }

    /** Four holders with shares of 40, 30, 20, 10. */
    private static CatchShares four() {
        CatchShares x = Due.made(4, 100, 100);
        Due.part(x, 0, 4, 3, 2, 1);
        return x;
    }

    private static void intoOfNoHolder() {
        Trial.noSuchHolder(0, (y, holder) -> Trial.bit(y.into(holder, 0)));
        Trial.noSuchHolder(0, (y, holder) -> Trial.bit(y.into(holder, -1)));
        Due.yes("the last holder", Due.made(12, 1).into(11, 0));
    }

    private static void poolRange() {
        CatchShares x = four();
        Due.yes("0", x.into(0, 0));
        Due.yes("3", x.into(1, 3));
        Due.is("in 0", x.pooled(0, 0), 40);
        Due.is("in 3", x.pooled(0, 3), 30);
        Due.yes("NONE", x.into(0, CatchShares.NONE));
        Due.is("no more in 0", x.pooled(0, 0), 0);
        Due.yes("NONE again", x.into(0, CatchShares.NONE));
        Trial busy = Trial.busy();
        for (int pool : new int[] {-2, 4, Integer.MIN_VALUE, Integer.MAX_VALUE, 256, 255, 65536}) {
            busy.no("pool " + pool, y -> y.into(0, pool));
        }
    }

    private static void fromNowOn() {
        CatchShares x = four();
        Due.yes("0 into 2", x.into(0, 2));
        Due.yes("1 into 2", x.into(1, 2));
        Due.is("both", x.pooled(0, 2), 70);
        Due.yes("0 into 1", x.into(0, 1));
        Due.is("in one pool alone", x.pooled(0, 2), 30);
        Due.is("in the other", x.pooled(0, 1), 40);
        Due.yes("the same again", x.into(0, 1));
        Due.is("once", x.pooled(0, 1), 40);
    }

    private static void noPoolAtFirst() {
        CatchShares x = four();
        for (int pool = 0; pool < 4; pool++) {
            Due.is("pool " + pool, x.pooled(0, pool), 0);
        }
    }

    private static void pooledOfNoStock() {
        Trial.noSuchStock(-1, (y, stock) -> y.pooled(stock, 1));
        Due.is("the last stock", Due.made(1, 1, 2, 3, 4, 5, 6, 7, 8).pooled(7, 0), 0);
    }

    private static void pooledOfNoPool() {
        Trial busy = Trial.busy();
        for (int pool : Trial.noneOf(4)) {
            busy.none("pool " + pool, y -> y.pooled(0, pool));
        }
        CatchShares x = four();
        Due.none("of holders in no pool", x.pooled(0, CatchShares.NONE));
    }

    private static void together() {
        CatchShares x = Due.made(12, 1200, 24);
        Due.part(x, 0, 1, 1, 1, 1, 1, 1, 1, 1, 1, 1, 1, 1);
        Due.part(x, 1, 1, 1, 1, 1, 1, 1, 1, 1, 1, 1, 1, 1);
        for (int h = 0; h < 12; h++) {
            Due.yes("into", x.into(h, h < 11 ? 0 : 3));
        }
        Due.is("all but the last", x.pooled(0, 0), 1100);
        Due.is("the last", x.pooled(0, 3), 100);
        Due.is("of the other stock", x.pooled(1, 0), 22);
        Due.yes("the last, too", x.into(11, 0));
        Due.is("all", x.pooled(0, 0), 1200);
        Due.yes("land", x.land(0, 5, 150, 1, 1));
        Due.is("what one is over is taken off", x.pooled(0, 0), 1050);
    }

    private static void nothingThere() {
        Due.is("no holders", Due.made(0, 100).pooled(0, 0), 0);
        CatchShares x = four();
        Due.yes("into", x.into(0, 0));
        Due.is("an empty pool", x.pooled(0, 1), 0);
        Due.is("a stock that is not parted", x.pooled(1, 0), 0);
    }

    private static void pooledIsNone() {
        CatchShares x = four();
        Due.yes("into", x.into(1, 3));
        Due.yes("into", x.into(2, 3));
        Due.yes("land", x.land(0, 1, 51, 1, 1));
        Due.is("50 less 51", x.pooled(0, 3), -1);
        Due.yes("land", x.land(0, 2, 1000000000L, 1, 1));
        Due.yes("land", x.land(0, 2, 1000000000L, 1, 1));
        Due.yes("land", x.land(0, 2, 1000000000L, 1, 1));
        Due.is("farther below than an int", x.pooled(0, 3), -3000000001L);
    }

    private static void pooledOnTheLastDay() {
        CatchShares x = four();
        Due.yes("into", x.into(0, 0));
        Due.yes("land, told on the last day", x.land(0, 0, 15, 0, 99999));
        Due.is("left", x.pooled(0, 0), 25);
    }
}
