/** Promises 11 and 12: transfer, swap; of the terms the order of the checks, which is seen in these two alone. */
public final class TradeTest {
    public static void main(String[] args) {
        Due.test("11: NONE when there is no such stock", TradeTest::transferOfNoStock);
        Due.test("11: NONE when there are no such holders", TradeTest::transferOfNoHolders);
        Due.test("11: NONE when both are one", TradeTest::transferToItself);
        Due.test("11: NONE when it is not parted", TradeTest::transferOfNotParted);
        Due.test("11: NONE when grams is not 1 .. 1000000000", TradeTest::transferRange);
        Due.test("11: 1 when a has less LEFT", TradeTest::transferOfTooMuch);
        Due.test("11: less LEFT (without a day: all landings)", TradeTest::transferOfLanded);
        Due.test("11: Grams of a share go from a holder to another one: 0", TradeTest::transfers);
        Due.test("12: NONE when there are no such stocks", TradeTest::swapOfNoStocks);
        Due.test("12: NONE when there is no such holder", TradeTest::swapOfNoHolder);
        Due.test("12: NONE when both are one", TradeTest::swapWithItself);
        Due.test("12: NONE when one is not parted", TradeTest::swapOfNotParted);
        Due.test("12: NONE when above is not 1 .. 1000", TradeTest::swapAboveRange);
        Due.test("12: NONE when below is not 1 .. 1000", TradeTest::swapBelowRange);
        Due.test("12: NONE when grams is not 1 .. 1000000000", TradeTest::swapRange);
        Due.test("12: 1 when it has less LEFT", TradeTest::swapOfTooMuch);
        Due.test("12: less LEFT (without a day: all landings)", TradeTest::swapOfLanded);
        Due.test("12: 2 when that is no whole number", TradeTest::swapOfNoWholeNumber);
        Due.test("12: 2 when that is below 1", TradeTest::swapBelowOne);
        Due.test("12: 2 when all shares would be more than 2000000000", TradeTest::swapOfTheMost);
        Due.test("12: A holder gives grams of a stock and gets of another one: 0", TradeTest::swaps);
        Due.test("Terms: index, calls out of turn, ranges, meaning (transfer)", TradeTest::orderOfTransfer);
        Due.test("Terms: index, calls out of turn, ranges, meaning (swap)", TradeTest::orderOfSwap);
        Due.end();
    }

    /** Two stocks, parted to two holders by half: of 100, and of 1000000000. */
    private static CatchShares halves() {
        CatchShares x = new CatchShares();
        makeHalves(x);
        return x;
    }

    private static void makeHalves(CatchShares x) {
        x.stock(100);
        x.stock(1000000000L);
        x.holder(0);
        x.holder(1);
        Due.part(x, 0, 1, 1);
        Due.part(x, 1, 1, 1);
    }

    /** Stock 0 has 2000000000 grams, of which holder 0 has 1999999999; stock 2 has 1 gram, of holder 1. */
    private static void makeRich(CatchShares x) {
        x.stock(1000000000L);
        x.stock(1000000L);
        x.stock(1);
        x.holder(0);
        x.holder(1);
        Due.part(x, 0, 1, 0);
        Due.part(x, 1, 1, 0);
        Due.part(x, 2, 0, 1);
        Due.is("swap", x.swap(1, 0, 1000, 1, 0, 1000000L), 0);
        Due.is("transfer", x.transfer(0, 0, 1, 1), 0);
    }

    private static void transferOfNoStock() {
        Trial.noSuchStock(-1, (y, stock) -> y.transfer(stock, 0, 1, 1));
        CatchShares x = Due.made(2, 1, 2, 3, 4, 5, 6, 7, 8);
        Due.part(x, 7, 1, 1);
        Due.is("the last stock", x.transfer(7, 0, 1, 1), 0);
    }

    private static void transferOfNoHolders() {
        Trial.noSuchHolder(-1, (y, a) -> y.transfer(0, a, 1, 1));
        Trial.noSuchHolder(-1, (y, b) -> y.transfer(0, 0, b, 1));
        Trial.noSuchHolder(-1, (y, both) -> y.transfer(0, both, both, 1));
        CatchShares x = Due.made(12, 12);
        Due.part(x, 0, 1, 1, 1, 1, 1, 1, 1, 1, 1, 1, 1, 1);
        Due.is("to the last", x.transfer(0, 0, 11, 1), 0);
        Due.is("from the last", x.transfer(0, 11, 1, 2), 0);
        Due.is("it went", x.given(0, 1), 3);
    }

    private static void transferToItself() {
        Trial busy = Trial.busy();
        busy.none("a little", y -> y.transfer(0, 0, 0, 1));
        busy.none("more than is left", y -> y.transfer(0, 0, 0, 1000));
        busy.none("not parted", y -> y.transfer(2, 1, 1, 1));
    }

    private static void transferOfNotParted() {
        Trial busy = Trial.busy();
        busy.none("with weights", y -> y.transfer(2, 0, 1, 1));
        busy.none("without weights", y -> y.transfer(3, 0, 1, 1));
    }

    private static void transferRange() {
        Trial rich = new Trial(TradeTest::makeRich);
        for (long grams : Trial.outside(1, 1000000000L)) {
            rich.none("grams " + grams, y -> y.transfer(0, 0, 1, grams));
        }
        CatchShares x = new CatchShares();
        makeRich(x);
        Due.is("1", x.transfer(0, 0, 1, 1), 0);
        Due.shares("1", x, 0, 1999999998L, 2);
        Due.is("1000000000", x.transfer(0, 0, 1, 1000000000L), 0);
        Due.shares("1000000000", x, 0, 999999998L, 1000000002L);
    }

    private static void transferOfTooMuch() {
        Trial halves = new Trial(TradeTest::makeHalves);
        halves.answers("one more", y -> y.transfer(0, 0, 1, 51), 1);
        halves.answers("as many as may be", y -> y.transfer(0, 0, 1, 1000000000L), 1);
        CatchShares x = halves();
        Due.is("all", x.transfer(0, 0, 1, 50), 0);
        Due.shares("all", x, 0, 0, 100);
        Due.is("nothing is left", x.transfer(0, 0, 1, 1), 1);
        Due.shares("all still", x, 0, 0, 100);
    }

    private static void transferOfLanded() {
        CatchShares x = halves();
        Due.yes("land, told on the last day", x.land(0, 0, 40, 0, 99999));
        Due.is("one more", x.transfer(0, 0, 1, 11), 1);
        Due.is("all that is left", x.transfer(0, 0, 1, 10), 0);
        Due.shares("what was landed stays", x, 0, 40, 60);
        Due.yes("land over", x.land(0, 0, 5, 1, 1));
        Due.is("below 0", x.transfer(0, 0, 1, 1), 1);
        Due.is("to one that is over", x.transfer(0, 1, 0, 5), 0);
        Due.is("left", x.left(0, 0, 99999), 0);
        Trial over = Trial.busy();
        over.answers("from one that is over", y -> y.transfer(0, 1, 0, 1), 1);
    }

    private static void transfers() {
        CatchShares x = Due.made(3, 100, 100);
        Due.part(x, 0, 5, 3, 2);
        Due.part(x, 1, 1, 1, 1);
        Due.is("from 0 to 2", x.transfer(0, 0, 2, 20), 0);
        Due.shares("from 0 to 2", x, 0, 30, 30, 40);
        Due.shares("the other stock", x, 1, 34, 33, 33);
        Due.is("given on", x.transfer(0, 2, 1, 40), 0);
        Due.shares("given on", x, 0, 30, 70, 0);
        Due.yes("sums", x.sums(0));
    }

    private static void swapOfNoStocks() {
        Trial.noSuchStock(-1, (y, stock) -> y.swap(stock, 1, 1, 1, 0, 1));
        Trial.noSuchStock(-1, (y, other) -> y.swap(0, other, 1, 1, 0, 1));
        Trial.noSuchStock(-1, (y, both) -> y.swap(both, both, 1, 1, 0, 1));
        CatchShares x = Due.made(1, 1, 2, 3, 4, 5, 6, 7, 8);
        Due.part(x, 6, 1);
        Due.part(x, 7, 1);
        Due.is("the last ones", x.swap(7, 6, 1, 1, 0, 8), 0);
        Due.shares("given", x, 7, 0);
        Due.shares("got", x, 6, 15);
    }

    private static void swapOfNoHolder() {
        Trial.noSuchHolder(-1, (y, holder) -> y.swap(0, 1, 1, 1, holder, 1));
        CatchShares x = Due.made(12, 12, 12);
        for (int s = 0; s < 2; s++) {
            Due.part(x, s, 1, 1, 1, 1, 1, 1, 1, 1, 1, 1, 1, 1);
        }
        Due.is("the last holder", x.swap(0, 1, 1, 1, 11, 1), 0);
        Due.is("got", x.given(1, 11), 2);
    }

    private static void swapWithItself() {
        Trial busy = Trial.busy();
        busy.none("one for one", y -> y.swap(0, 0, 1, 1, 0, 1));
        busy.none("two for one", y -> y.swap(0, 0, 2, 1, 0, 1));
        busy.none("more than is left", y -> y.swap(0, 0, 1, 1, 0, 5000));
        busy.none("not parted", y -> y.swap(2, 2, 1, 1, 0, 1));
    }

    private static void swapOfNotParted() {
        Trial busy = Trial.busy();
        busy.none("the other one", y -> y.swap(0, 2, 1, 1, 0, 1));
        busy.none("the one", y -> y.swap(2, 0, 1, 1, 0, 1));
        busy.none("both", y -> y.swap(2, 3, 1, 1, 0, 1));
    }

    private static void swapAboveRange() {
        Trial halves = new Trial(TradeTest::makeHalves);
        for (int above : Trial.outsideInts(1, 1000)) {
            halves.none("above " + above, y -> y.swap(0, 1, above, 1, 0, 1));
        }
        CatchShares x = halves();
        Due.is("1", x.swap(0, 1, 1, 1, 0, 1), 0);
        Due.is("got", x.given(1, 0), 500000001L);
        Due.is("1000", x.swap(0, 1, 1000, 1, 0, 1), 0);
        Due.is("got", x.given(1, 0), 500001001L);
    }

    private static void swapBelowRange() {
        Trial halves = new Trial(TradeTest::makeHalves);
        for (int below : Trial.outsideInts(1, 1000)) {
            halves.none("below " + below, y -> y.swap(1, 0, 1, below, 0, 1001000));
        }
        CatchShares x = halves();
        Due.is("1", x.swap(1, 0, 1, 1, 0, 2), 0);
        Due.is("got", x.given(0, 0), 52);
        Due.is("1000", x.swap(1, 0, 1, 1000, 0, 3000), 0);
        Due.is("got", x.given(0, 0), 55);
    }

    private static void swapRange() {
        Trial rich = new Trial(TradeTest::makeRich);
        for (long grams : Trial.outside(1, 1000000000L)) {
            rich.none("grams " + grams, y -> y.swap(0, 2, 1, 1, 0, grams));
        }
        CatchShares x = new CatchShares();
        makeRich(x);
        Due.is("1", x.swap(0, 2, 1, 1, 0, 1), 0);
        Due.shares("1", x, 2, 1, 1);
        Due.is("1000000000", x.swap(0, 2, 1, 1, 0, 1000000000L), 0);
        Due.shares("1000000000", x, 2, 1000000001L, 1);
        Due.shares("given", x, 0, 999999998L, 1);
    }

    private static void swapOfTooMuch() {
        Trial halves = new Trial(TradeTest::makeHalves);
        halves.answers("one more", y -> y.swap(0, 1, 1, 1, 0, 51), 1);
        halves.answers("as many as may be", y -> y.swap(0, 1, 1, 1, 0, 1000000000L), 1);
        CatchShares x = halves();
        Due.is("all", x.swap(0, 1, 1, 1, 0, 50), 0);
        Due.shares("given", x, 0, 0, 50);
        Due.shares("got", x, 1, 500000050L, 500000000L);
        Due.is("nothing is left", x.swap(0, 1, 1, 1, 0, 1), 1);
        Due.shares("nothing more is got", x, 1, 500000050L, 500000000L);
    }

    private static void swapOfLanded() {
        CatchShares x = halves();
        Due.yes("land, told on the last day", x.land(0, 0, 40, 0, 99999));
        Due.is("one more", x.swap(0, 1, 1, 1, 0, 11), 1);
        Due.is("all that is left", x.swap(0, 1, 1, 5, 0, 10), 0);
        Due.shares("what was landed stays", x, 0, 40, 50);
        Due.shares("got", x, 1, 500000002L, 500000000L);
        Due.yes("land over", x.land(0, 0, 5, 1, 1));
        Due.is("below 0", x.swap(0, 1, 1, 1, 0, 1), 1);
        Due.is("to one that is over", x.swap(1, 0, 1, 1, 0, 5), 0);
        Due.is("left", x.left(0, 0, 99999), 0);
        Trial over = Trial.busy();
        over.answers("from one that is over", y -> y.swap(0, 1, 1, 1, 1, 1), 1);
    }

    private static void swapOfNoWholeNumber() {
        Trial halves = new Trial(TradeTest::makeHalves);
        halves.answers("7.5", y -> y.swap(0, 1, 3, 2, 0, 5), 2);
        halves.answers("1.001", y -> y.swap(1, 0, 1, 1000, 0, 1001), 2);
        halves.answers("49.95", y -> y.swap(0, 1, 999, 1000, 0, 50), 2);
        CatchShares x = halves();
        Due.is("9", x.swap(0, 1, 3, 2, 0, 6), 0);
        Due.is("got", x.given(1, 0), 500000009L);
        Due.is("given", x.given(0, 0), 44);
    }

    private static void swapBelowOne() {
        Trial halves = new Trial(TradeTest::makeHalves);
        halves.answers("1 / 2", y -> y.swap(0, 1, 1, 2, 0, 1), 2);
        halves.answers("1 / 1000", y -> y.swap(0, 1, 1, 1000, 0, 1), 2);
        halves.answers("999 / 1000", y -> y.swap(0, 1, 999, 1000, 0, 1), 2);
        CatchShares x = halves();
        Due.is("1000 / 1000", x.swap(0, 1, 1000, 1000, 0, 1), 0);
        Due.is("got", x.given(1, 0), 500000001L);
        Due.is("20 * 1 / 20", x.swap(0, 1, 1, 20, 0, 20), 0);
        Due.is("got", x.given(1, 0), 500000002L);
    }

    private static void makeBoth(CatchShares x) {
        x.stock(1000000000L);
        x.stock(1000000000L);
        x.holder(0);
        x.holder(1);
        Due.part(x, 0, 1, 0);
        Due.part(x, 1, 0, 1);
    }

    private static void swapOfTheMost() {
        Trial both = new Trial(TradeTest::makeBoth);
        both.answers("far too much", y -> y.swap(0, 1, 1000, 1, 0, 1000000000L), 2);
        both.answers("such as an int would wrap around", y -> y.swap(0, 1, 1000, 1, 0, 4294968L), 2);
        both.answers("2000001000 in all", y -> y.swap(0, 1, 1000, 1, 0, 1000001), 2);
        CatchShares x = new CatchShares();
        makeBoth(x);
        Due.is("2000000000 in all", x.swap(0, 1, 1000, 1, 0, 1000000), 0);
        Due.is("told", x.told(1, 3), 2000000000L);
        CatchShares y = new CatchShares();
        makeBoth(y);
        Due.is("1999999999 in all", y.swap(0, 1, 999, 1, 0, 1001001), 0);
        Due.is("told", y.told(1, 3), 1999999999L);
        Due.is("two too many by one", y.swap(0, 1, 2, 1, 0, 1), 2);
        Due.is("told still", y.told(1, 3), 1999999999L);
        Due.is("2000000000 in all", y.swap(0, 1, 1, 1, 0, 1), 0);
        Due.is("told", y.told(1, 3), 2000000000L);
        Due.is("one too many", y.swap(0, 1, 1, 1, 0, 1), 2);
        Due.shares("given", y, 0, 1000000000L - 1001002, 0);
        Due.shares("got", y, 1, 1000000000L, 1000000000L);
    }

    private static void swaps() {
        CatchShares x = halves();
        Due.is("there", x.swap(0, 1, 3, 2, 0, 10), 0);
        Due.shares("given", x, 0, 40, 50);
        Due.shares("got", x, 1, 500000015L, 500000000L);
        Due.is("back", x.swap(1, 0, 1000, 1, 1, 50), 0);
        Due.shares("given back", x, 1, 500000015L, 499999950L);
        Due.shares("got back", x, 0, 40, 50050);
        Due.yes("sums", x.sums(0));
        Due.yes("sums", x.sums(1));
    }

    private static void orderOfTransfer() {
        Trial busy = Trial.busy();
        busy.none("index before less LEFT", y -> y.transfer(0, 0, 3, 5000));
        busy.none("out of turn before less LEFT", y -> y.transfer(2, 0, 1, 5000));
        busy.none("range before less LEFT", y -> y.transfer(0, 1, 0, 0));
        busy.none("range before less LEFT", y -> y.transfer(0, 0, 1, 1000000001L));
        busy.answers("less LEFT", y -> y.transfer(0, 0, 1, 5000), 1);
    }

    private static void orderOfSwap() {
        Trial busy = Trial.busy();
        busy.none("index before less LEFT", y -> y.swap(0, 4, 1, 1, 0, 5000));
        busy.none("index before no whole number", y -> y.swap(0, 1, 1, 2, 3, 1));
        busy.none("out of turn before less LEFT", y -> y.swap(0, 2, 1, 1, 0, 5000));
        busy.none("out of turn before no whole number", y -> y.swap(0, 2, 1, 2, 0, 1));
        busy.none("range before less LEFT", y -> y.swap(0, 1, 1001, 1, 0, 5000));
        busy.none("range before no whole number", y -> y.swap(0, 1, 1, 1001, 0, 1));
        busy.answers("less LEFT before no whole number", y -> y.swap(0, 1, 1, 2, 0, 5001), 1);
        busy.answers("less LEFT before too much", y -> y.swap(0, 1, 1000, 1, 0, 1000000000L), 1);
        busy.answers("no whole number", y -> y.swap(0, 1, 1, 2, 0, 1), 2);
    }
}
