/** Promises 13 to 15: over, carried, penalty. */
public final class CarryTest {
    public static void main(String[] args) {
        Due.test("13: NONE when there is no such stock", CarryTest::overOfNoStock);
        Due.test("13: NONE when there is no such holder", CarryTest::overOfNoHolder);
        Due.test("Terms: OVER is how much LEFT is below 0, or 0", CarryTest::overOrNothing);
        Due.test("Terms: LEFT without a day: all landings (in OVER)", CarryTest::overOnTheLastDay);
        Due.test("13: OVER (of the share as it is now)", CarryTest::overAsItIsNow);
        Due.test("14: NONE likewise (no such stock)", CarryTest::carriedOfNoStock);
        Due.test("14: NONE likewise (no such holder)", CarryTest::carriedOfNoHolder);
        Due.test("14: it may be NONE, too", CarryTest::carriedIsNone);
        Due.test("Terms: OVER above 0: 0 less OVER", CarryTest::carriedOver);
        Due.test("Terms: the lesser one of LEFT and the tenth", CarryTest::lesserOfTwo);
        Due.test("Terms: the tenth of its SHARE (rounded down)", CarryTest::tenthRoundedDown);
        Due.test("Terms: CARRIED before the parting", CarryTest::carriedBefore);
        Due.test("15: False when above is not 1 .. 1000", CarryTest::aboveRange);
        Due.test("15: False when below is not 1 .. 1000", CarryTest::belowRange);
        Due.test("15: of all stocks from now on", CarryTest::ofAllStocks);
        Due.test("Terms: PENALTY is 1 / 1 at first", CarryTest::penaltyAtFirst);
        Due.test("Terms: OVER * PENALTY, rounded up in size", CarryTest::roundedUpInSize);
        Due.test("Terms: OVER * PENALTY (of the least)", CarryTest::leastOver);
        Due.test("Terms: OVER * PENALTY (of the most)", CarryTest::mostOver);
        Due.end();
    }

    /** One stock of 100 with one holder, who has landed so much. */
    private static CatchShares landed(long... landings) {
        CatchShares x = Due.made(1, 100);
        Due.part(x, 0, 1);
        for (long grams : landings) {
            Due.yes("land", x.land(0, 0, grams, 1, 1));
        }
        return x;
    }

    private static void overOfNoStock() {
        Trial.noSuchStock(-1, (y, stock) -> y.over(stock, 1));
        Due.is("the last stock", Due.made(1, 1, 2, 3, 4, 5, 6, 7, 8).over(7, 0), 0);
    }

    private static void overOfNoHolder() {
        Trial.noSuchHolder(-1, (y, holder) -> y.over(0, holder));
        Due.is("the last holder", Due.made(12, 1).over(0, 11), 0);
    }

    private static void overOrNothing() {
        Due.is("not parted", Due.made(1, 100).over(0, 0), 0);
        Due.is("nothing landed", landed().over(0, 0), 0);
        Due.is("1 left", landed(99).over(0, 0), 0);
        Due.is("0 left", landed(100).over(0, 0), 0);
        Due.is("1 over", landed(101).over(0, 0), 1);
        Due.is("more than an int", landed(1000000000L, 1000000000L, 1000000000L).over(0, 0), 2999999900L);
    }

    private static void overOnTheLastDay() {
        CatchShares x = landed(90);
        Due.yes("land, told on the last day", x.land(0, 0, 11, 0, 99999));
        Due.is("over", x.over(0, 0), 1);
        Due.is("carried", x.carried(0, 0), -1);
    }

    private static void overAsItIsNow() {
        CatchShares x = Due.made(2, 100);
        Due.part(x, 0, 1, 1);
        Due.yes("land", x.land(0, 0, 60, 1, 1));
        Due.is("over", x.over(0, 0), 10);
        Due.is("the other one", x.over(0, 1), 0);
        Due.is("transfer", x.transfer(0, 1, 0, 9), 0);
        Due.is("less over", x.over(0, 0), 1);
        Due.is("transfer", x.transfer(0, 1, 0, 1), 0);
        Due.is("no more over", x.over(0, 0), 0);
    }

    private static void carriedOfNoStock() {
        Trial.noSuchStock(-1, (y, stock) -> y.carried(stock, 0));
        Due.is("the last stock", Due.made(1, 1, 2, 3, 4, 5, 6, 7, 8).carried(7, 0), 0);
    }

    private static void carriedOfNoHolder() {
        Trial.noSuchHolder(-1, (y, holder) -> y.carried(0, holder));
        Due.is("the last holder", Due.made(12, 1).carried(0, 11), 0);
    }

    private static void carriedIsNone() {
        Due.is("1 over", landed(101).carried(0, 0), -1);
    }

    private static void carriedOver() {
        Due.is("0 over", landed(100).carried(0, 0), 0);
        Due.is("2 over", landed(102).carried(0, 0), -2);
        Due.is("far over", landed(1000000000L, 1000000000L, 1000000000L).carried(0, 0), -2999999900L);
        CatchShares x = Due.made(1, 0);
        Due.part(x, 0, 1);
        Due.yes("land", x.land(0, 0, 5, 1, 1));
        Due.is("over without a share", x.carried(0, 0), -5);
    }

    private static void lesserOfTwo() {
        Due.is("100 left", landed().carried(0, 0), 10);
        Due.is("11 left", landed(89).carried(0, 0), 10);
        Due.is("10 left", landed(90).carried(0, 0), 10);
        Due.is("9 left", landed(91).carried(0, 0), 9);
        Due.is("1 left", landed(99).carried(0, 0), 1);
        Due.is("0 left", landed(100).carried(0, 0), 0);
        CatchShares x = landed(80);
        Due.yes("land, told on the last day", x.land(0, 0, 15, 0, 99999));
        Due.is("5 left in all", x.carried(0, 0), 5);
    }

    private static void tenthRoundedDown() {
        long[] shares = {0, 9, 10, 19, 20, 999999999L, 1000000000L};
        for (long share : shares) {
            CatchShares x = Due.made(1, share);
            Due.part(x, 0, 1);
            Due.is("the tenth of " + share, x.carried(0, 0), share / 10);
        }
        CatchShares x = Due.made(2, 40);
        Due.part(x, 0, 1, 1);
        Due.is("transfer", x.transfer(0, 0, 1, 11), 0);
        Due.is("of the share as it is now, 9", x.carried(0, 0), 0);
        Due.is("of the share as it is now, 31", x.carried(0, 1), 3);
    }

    private static void carriedBefore() {
        CatchShares x = Due.made(1, 100);
        Due.yes("weight", x.weight(0, 0, 1));
        Due.is("not parted", x.carried(0, 0), 0);
        Due.is("part", x.part(0), 1);
        Due.is("parted", x.carried(0, 0), 10);
    }

    private static void aboveRange() {
        CatchShares x = landed(107);
        Due.yes("1", x.penalty(1, 1));
        Due.is("7 over", x.carried(0, 0), -7);
        Due.yes("1000", x.penalty(1000, 1));
        Due.is("a thousand times", x.carried(0, 0), -7000);
        Trial busy = Trial.busy();
        for (int above : Trial.outsideInts(1, 1000)) {
            busy.no("above " + above, y -> y.penalty(above, 1));
        }
        busy.no("both 0", y -> y.penalty(0, 0));
    }

    private static void belowRange() {
        CatchShares x = landed(2107);
        Due.yes("1", x.penalty(2, 1));
        Due.is("2007 over, twice", x.carried(0, 0), -4014);
        Due.yes("1000", x.penalty(1, 1000));
        Due.is("a thousandth", x.carried(0, 0), -3);
        Trial busy = Trial.busy();
        for (int below : Trial.outsideInts(1, 1000)) {
            busy.no("below " + below, y -> y.penalty(1, below));
        }
        busy.no("both 1001", y -> y.penalty(1001, 1001));
    }

    private static void ofAllStocks() {
        CatchShares x = Due.made(2, 10, 10, 100, 100);
        Due.part(x, 0, 1, 1);
        Due.part(x, 1, 1, 1);
        Due.yes("land", x.land(0, 0, 12, 1, 1));
        Due.yes("land", x.land(1, 1, 15, 1, 1));
        Due.yes("follows", x.follows(2, 0));
        Due.yes("follows", x.follows(3, 0));
        Due.part(x, 2, 1, 1);
        Due.yes("3 / 1", x.penalty(3, 1));
        Due.is("of the first", x.carried(0, 0), -21);
        Due.is("of the second", x.carried(1, 1), -30);
        Due.is("not of what is left", x.carried(0, 1), 0);
        Due.part(x, 3, 1, 1);
        Due.shares("carried before", x, 2, 43, 50);
        Due.shares("carried from now on", x, 3, 29, 50);
    }

    private static void penaltyAtFirst() {
        Due.is("7 over", landed(107).carried(0, 0), -7);
    }

    private static void roundedUpInSize() {
        CatchShares x = landed(107);
        Due.yes("1 / 7", x.penalty(1, 7));
        Due.is("a whole number", x.carried(0, 0), -1);
        Due.yes("3 / 2", x.penalty(3, 2));
        Due.is("10.5", x.carried(0, 0), -11);
        Due.yes("1 / 1000", x.penalty(1, 1000));
        Due.is("0.007", x.carried(0, 0), -1);
        Due.yes("999 / 1000", x.penalty(999, 1000));
        Due.is("6.993", x.carried(0, 0), -7);
        Due.yes("1000 / 999", x.penalty(1000, 999));
        Due.is("7.007", x.carried(0, 0), -8);
        Due.yes("1 / 3", x.penalty(1, 3));
        Due.is("2.3", x.carried(0, 0), -3);
        Due.yes("1 / 4", x.penalty(1, 4));
        Due.is("1.75", x.carried(0, 0), -2);
    }

    private static void leastOver() {
        CatchShares x = landed(101);
        Due.yes("3 / 1", x.penalty(3, 1));
        Due.is("three times one", x.carried(0, 0), -3);
        Due.yes("1 / 1000", x.penalty(1, 1000));
        Due.is("a thousandth of one", x.carried(0, 0), -1);
        Due.yes("1000 / 1", x.penalty(1000, 1));
        Due.is("a thousand times one", x.carried(0, 0), -1000);
    }

    private static void mostOver() {
        CatchShares x = Due.made(1, 0);
        Due.part(x, 0, 1);
        for (int i = 0; i < 200; i++) {
            Due.yes("land", x.land(0, 0, 1000000000L, i, i));
        }
        Due.is("once", x.carried(0, 0), -200000000000L);
        Due.yes("1000 / 1", x.penalty(1000, 1));
        Due.is("a thousand times", x.carried(0, 0), -200000000000000L);
        Due.yes("1000 / 999", x.penalty(1000, 999));
        Due.is("a little more than once", x.carried(0, 0), -200200200201L);
    }
}
