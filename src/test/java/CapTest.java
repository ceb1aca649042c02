/** Promises 20 and 21: cap, capped. */
public final class CapTest {
    public static void main(String[] args) {
        Due.test("20: False when there is none such", CapTest::capOfNoStock);
        Due.test("20: False when it is not 0 .. 100", CapTest::capRange);
        Due.test("20: CAP of a stock (parted or not, anew)", CapTest::capAnew);
        Due.test("Terms: CAP (100 at first)", CapTest::capAtFirst);
        Due.test("21: false when there is none such", CapTest::cappedOfNone);
        Due.test("21: nothing there yet", CapTest::nothingThere);
        Due.test("Terms: above CAP of all WEIGHTS (not at it)", CapTest::aboveTheCap);
        Due.test("Terms: above CAP (0 and 100)", CapTest::leastAndGreatestCap);
        Due.test("Terms: in a stock (any, the last one, too)", CapTest::inAnyStock);
        Due.test("Terms: the sum over all holders", CapTest::overAllHolders);
        Due.test("Terms: WEIGHT times his HOLD of its owner", CapTest::throughOwners);
        Due.test("Terms: above by the least hold", CapTest::byTheLeastHold);
        Due.test("Terms: above by a hundredth of a weight", CapTest::byLowerDigits);
        Due.test("Terms: weights as large as may be", CapTest::largestWeights);
        Due.end();
    }

    private static void capOfNoStock() {
        Trial.noSuchStock(0, (y, stock) -> Trial.bit(y.cap(stock, 50)));
        Due.yes("the last stock", Due.made(1, 1, 2, 3, 4, 5, 6, 7, 8).cap(7, 50));
    }

    private static void capRange() {
        CatchShares x = Due.made(1, 100);
        Due.yes("0", x.cap(0, 0));
        Due.is("told", x.told(0, 5), 0);
        Due.yes("100", x.cap(0, 100));
        Due.is("told", x.told(0, 5), 100);
        Trial busy = Trial.busy();
        for (int hundredths : new int[] {-1, 101, Integer.MIN_VALUE, Integer.MAX_VALUE, 256, 65536}) {
            busy.no("cap " + hundredths, y -> y.cap(0, hundredths));
            busy.no("cap " + hundredths + ", not parted", y -> y.cap(2, hundredths));
        }
    }

    private static void capAnew() {
        CatchShares x = Due.made(1, 100, 100);
        Due.yes("not parted", x.cap(0, 70));
        Due.part(x, 0, 1);
        Due.is("told", x.told(0, 5), 70);
        Due.yes("parted", x.cap(0, 55));
        Due.is("told anew", x.told(0, 5), 55);
        Due.is("the other stock", x.told(1, 5), 100);
    }

    private static void capAtFirst() {
        CatchShares x = Due.made(1, 100);
        Due.is("told", x.told(0, 5), 100);
        Due.yes("weight", x.weight(0, 0, 1));
        Due.no("all is not above", x.capped(0));
    }

    private static void cappedOfNone() {
        Trial busy = Trial.busy();
        for (int owner : Trial.noneOf(10)) {
            busy.no("owner " + owner, y -> y.capped(owner));
        }
        CatchShares x = Due.made(0, 1);
        Due.is("holder", x.holder(9), 0);
        Due.yes("cap", x.cap(0, 0));
        Due.yes("weight", x.weight(0, 0, 1));
        Due.yes("the last owner", x.capped(9));
        Due.no("the next", x.capped(10));
    }

    private static void nothingThere() {
        Due.no("no stock", Due.made(1).capped(0));
        CatchShares x = Due.made(0, 1);
        Due.yes("cap", x.cap(0, 0));
        Due.no("no holder", x.capped(0));
        Due.is("holder", x.holder(0), 0);
        Due.no("no weights", x.capped(0));
        Due.yes("weight", x.weight(0, 0, 1));
        Due.yes("a weight", x.capped(0));
        Due.yes("weight", x.weight(0, 0, 0));
        Due.no("none again", x.capped(0));
    }

    private static void aboveTheCap() {
        CatchShares x = Due.made(2, 100);
        Due.weigh(x, 0, 50, 50);
        Due.yes("cap", x.cap(0, 50));
        Due.no("50 of 50", x.capped(0));
        Due.yes("weight", x.weight(0, 0, 51));
        Due.yes("51 of 50.5", x.capped(0));
        Due.no("50 of 50.5", x.capped(1));
        Due.yes("weight", x.weight(0, 0, 50));
        Due.yes("cap", x.cap(0, 49));
        Due.yes("50 of 49", x.capped(0));
        Due.is("part", x.part(0), 2);
        Due.yes("parted, too", x.capped(0));
        Due.is("transfer of all", x.transfer(0, 0, 1, 50), 0);
        Due.yes("by weights, not by shares", x.capped(0));
    }

    private static void leastAndGreatestCap() {
        CatchShares x = Due.made(2, 100);
        Due.weigh(x, 0, 1, 1000000);
        Due.yes("0", x.cap(0, 0));
        Due.yes("a weight is above 0", x.capped(0));
        Due.no("no weight is not", x.capped(2));
        Due.yes("1", x.cap(0, 1));
        Due.no("a millionth is not above 1", x.capped(0));
        Due.yes("all but a millionth is", x.capped(1));
        Due.yes("99", x.cap(0, 99));
        Due.yes("all but a millionth is above 99", x.capped(1));
        Due.yes("100", x.cap(0, 100));
        Due.no("nor above 100", x.capped(1));
    }

    private static void inAnyStock() {
        CatchShares x = Due.made(3, 1, 2, 3, 4, 5, 6, 7, 8);
        for (int stock = 0; stock < 8; stock++) {
            Due.yes("cap", x.cap(stock, 50));
            Due.weigh(x, stock, 1, 1, 0);
        }
        Due.no("in none", x.capped(0));
        Due.yes("weight", x.weight(7, 0, 2));
        Due.yes("in the last", x.capped(0));
        Due.no("not the other", x.capped(1));
        Due.yes("weight", x.weight(0, 1, 2));
        Due.yes("in the first", x.capped(1));
        Due.no("not the third", x.capped(2));
    }

    private static void overAllHolders() {
        CatchShares x = Due.made(0, 1);
        for (int i = 0; i < 12; i++) {
            Due.is("holder", x.holder(i == 0 || i == 11 ? 3 : 4), i);
            Due.yes("weight", x.weight(0, i, 1));
        }
        Due.yes("cap", x.cap(0, 16));
        Due.yes("2 of 1.92", x.capped(3));
        Due.yes("cap", x.cap(0, 17));
        Due.no("2 of 2.04", x.capped(3));
        Due.yes("10 of 2.04", x.capped(4));
    }

    private static void throughOwners() {
        CatchShares x = Due.made(3, 100);
        Due.weigh(x, 0, 30, 50, 20);
        Due.yes("cap", x.cap(0, 49));
        Due.no("30 of 49", x.capped(0));
        Due.yes("owns", x.owns(0, 1, 38));
        Due.no("30 and 19 of 49", x.capped(0));
        Due.yes("owns", x.owns(0, 2, 1));
        Due.yes("30 and 19 and 0.2 of 49", x.capped(0));
        Due.yes("what others have of him is his, too", x.capped(1));
        Due.yes("owns", x.owns(9, 0, 100));
        Due.yes("one without a holder", x.capped(9));
        Due.no("20 of 49", x.capped(2));
    }

    private static void byTheLeastHold() {
        CatchShares x = Due.made(0, 1);
        x.holder(0);
        x.holder(9);
        Due.weigh(x, 0, 99, 1);
        Due.yes("cap", x.cap(0, 99));
        Due.no("99 of 99", x.capped(0));
        for (int i = 0; i < 9; i++) {
            Due.yes("owns", x.owns(i, i + 1, 1));
        }
        Due.is("the least hold", x.hold(0, 9), 1);
        Due.yes("99 and the least hold", x.capped(0));
        CatchShares y = Due.made(0, 1);
        y.holder(0);
        y.holder(9);
        y.holder(8);
        Due.weigh(y, 0, 500000, 1, 499999);
        for (int i = 0; i < 7; i++) {
            Due.yes("owns", y.owns(i, i + 1, 1));
        }
        Due.yes("cap", y.cap(0, 50));
        Due.no("exactly half", y.capped(0));
        Due.yes("owns", y.owns(7, 9, 1));
        Due.is("the hold", y.hold(0, 9), 100);
        Due.yes("half and a hundredth to the 8th of a millionth", y.capped(0));
    }

    private static void makeFiveLinks(CatchShares x) {
        for (int i = 0; i < 5; i++) {
            Due.yes("owns", x.owns(i, i + 1, 5));
        }
    }

    private static void byLowerDigits() {
        CatchShares x = Due.made(0, 1);
        // nine holders in whom owner 0 has 0.05 to the 5th, in all 2.8125 of the weights
        makeFiveLinks(x);
        for (int i = 0; i < 9; i++) {
            x.holder(5);
            x.weight(0, i, 1000000);
        }
        x.holder(0);
        x.holder(9);
        Due.yes("weight", x.weight(0, 9, 91000));
        Due.yes("cap", x.cap(0, 1));
        Due.yes("weight", x.weight(0, 10, 9281));
        Due.yes("91002.8125 of 91002.81", x.capped(0));
        Due.yes("weight", x.weight(0, 10, 9282));
        Due.no("91002.8125 of 91002.82", x.capped(0));
        CatchShares y = Due.made(0, 1);
        makeFiveLinks(y);
        y.holder(5);
        y.holder(0);
        y.holder(9);
        Due.weigh(y, 0, 320000, 40000, 40001);
        Due.yes("cap", y.cap(0, 10));
        Due.no("40000.1 of 40000.1", y.capped(0));
        Due.yes("weight", y.weight(0, 2, 40000));
        Due.yes("40000.1 of 40000", y.capped(0));
    }

    private static void largestWeights() {
        CatchShares x = Due.made(0, 1);
        for (int i = 0; i < 12; i++) {
            x.holder(5);
            x.weight(0, i, 1000000);
        }
        Due.no("all of all", x.capped(5));
        Due.yes("cap", x.cap(0, 99));
        Due.yes("all of 99", x.capped(5));
        Due.yes("owns", x.owns(4, 5, 99));
        Due.no("99 of 99", x.capped(4));
        Due.yes("cap", x.cap(0, 98));
        Due.yes("99 of 98", x.capped(4));
        Due.yes("owns", x.owns(3, 4, 99));
        Due.yes("98.01 of 98", x.capped(3));
        Due.yes("owns", x.owns(2, 3, 99));
        Due.no("97.0299 of 98", x.capped(2));
    }
}
