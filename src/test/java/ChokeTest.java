/** Promises 22 and 23: choke, closes. */
public final class ChokeTest {
    public static void main(String[] args) {
        Due.test("22: NONE when there is none (no such holder)", ChokeTest::chokeOfNoHolder);
        Due.test("22: NONE when there is none (no stock, none parted)", ChokeTest::chokeOfNoStock);
        Due.test("22: Of the parted stocks in which a holder has a share above 0", ChokeTest::sharesAboveNothing);
        Due.test("22: the one with the least LEFT over SHARE", ChokeTest::leastOfAll);
        Due.test("22: of the same the least number", ChokeTest::sameOfAll);
        Due.test("22: the least LEFT over SHARE (by a hair)", ChokeTest::byAHair);
        Due.test("22: the least LEFT over SHARE (LEFT below 0, too)", ChokeTest::belowNothing);
        Due.test("22: the least LEFT over SHARE (far below 0)", ChokeTest::farOver);
        Due.test("22: the least LEFT over SHARE (where a product would wrap around)", ChokeTest::wrapAround);
        Due.test("22: the least LEFT over SHARE (of the largest shares)", ChokeTest::largestShares);
        Due.test("22: LEFT (without a day: all landings)", ChokeTest::chokeOnTheLastDay);
        Due.test("22: of all 8 stocks and 12 holders", ChokeTest::allStocks);
        Due.test("23: NONE when there is no such stock", ChokeTest::closesOfNoStock);
        Due.test("23: NONE when it is not parted", ChokeTest::closesOfNotParted);
        Due.test("23: NONE when rate is not 1 .. 1000000000", ChokeTest::rateRange);
        Due.test("23: rounded up", ChokeTest::roundedUp);
        Due.test("23: 0 for nothing left", ChokeTest::nothingLeft);
        Due.test("23: of the others nothing is taken off", ChokeTest::nothingIsTakenOff);
        Due.test("23: all holders that have it above 0, together", ChokeTest::together);
        Due.test("23: LEFT (without a day: all landings)", ChokeTest::closesOnTheLastDay);
        Due.end();
    }

    private static void chokeOfNoHolder() {
        Trial.noSuchHolder(-1, (y, holder) -> y.choke(holder));
    }

    private static void chokeOfNoStock() {
        Due.none("no stock yet", Due.made(1).choke(0));
        CatchShares x = Due.made(1, 100);
        Due.none("not parted", x.choke(0));
        Due.yes("weight", x.weight(0, 0, 1));
        Due.none("not parted, with a weight", x.choke(0));
        Due.is("part", x.part(0), 1);
        Due.is("parted", x.choke(0), 0);
    }

    private static void sharesAboveNothing() {
        CatchShares x = Due.made(2, 100, 100, 0);
        Due.part(x, 0, 1, 0);
        Due.part(x, 2, 1, 1);
        Due.none("a share of 0", x.choke(1));
        Due.yes("land", x.land(0, 1, 5, 1, 1));
        Due.none("over without a share", x.choke(1));
        Due.part(x, 1, 1, 1);
        Due.is("a share in the second alone", x.choke(1), 1);
        Due.is("transfer of one gram", x.transfer(0, 0, 1, 1), 0);
        Due.is("a share of 1, and far over", x.choke(1), 0);
        Due.is("transfer of all", x.transfer(1, 1, 0, 50), 0);
        Due.is("no share in the second", x.choke(1), 0);
        CatchShares y = Due.made(2, 100);
        Due.part(y, 0, 1, 1);
        Due.is("transfer of all", y.transfer(0, 0, 1, 50), 0);
        Due.none("no more a share", y.choke(0));
    }

    private static void leastOfAll() {
        CatchShares x = Due.made(2, 100, 200, 300);
        for (int stock = 0; stock < 3; stock++) {
            Due.part(x, stock, 1, 1);
        }
        Due.yes("land", x.land(2, 0, 6, 1, 1));
        Due.is("0.96 in the last", x.choke(0), 2);
        Due.yes("land", x.land(1, 0, 5, 1, 1));
        Due.is("0.95 in the second, though less is landed", x.choke(0), 1);
        Due.yes("land", x.land(0, 0, 3, 1, 1));
        Due.is("0.94 in the first", x.choke(0), 0);
        Due.is("the other holder", x.choke(1), 0);
        Due.yes("land", x.land(1, 1, 1, 1, 1));
        Due.is("the other holder by his own landings", x.choke(1), 1);
    }

    private static void sameOfAll() {
        CatchShares x = Due.made(1, 100, 200, 300);
        for (int stock = 2; stock >= 0; stock--) {
            Due.part(x, stock, 1);
        }
        Due.is("all are left", x.choke(0), 0);
        Due.yes("land", x.land(2, 0, 3, 1, 1));
        Due.yes("land", x.land(1, 0, 2, 1, 1));
        Due.is("0.99 in two", x.choke(0), 1);
        Due.yes("land", x.land(0, 0, 1, 1, 1));
        Due.is("0.99 in three", x.choke(0), 0);
        Due.yes("land", x.land(2, 0, 897, 1, 1));
        Due.yes("land", x.land(1, 0, 598, 1, 1));
        Due.is("-2 in two", x.choke(0), 1);
        Due.yes("land", x.land(0, 0, 299, 1, 1));
        Due.is("-2 in three", x.choke(0), 0);
    }

    private static void byAHair() {
        CatchShares x = Due.made(1, 1000000000L, 999999999L);
        Due.part(x, 0, 1);
        Due.part(x, 1, 1);
        Due.yes("land", x.land(0, 0, 1, 1, 1));
        Due.yes("land", x.land(1, 0, 1, 1, 1));
        Due.is("999999999 / 1000000000 and 999999998 / 999999999", x.choke(0), 1);
        Due.yes("land", x.land(0, 0, 1, 1, 1));
        Due.is("999999998 / 1000000000 and 999999998 / 999999999", x.choke(0), 0);
    }

    private static void belowNothing() {
        CatchShares x = Due.made(1, 100, 3, 4);
        for (int stock = 0; stock < 3; stock++) {
            Due.part(x, stock, 1);
        }
        Due.yes("land", x.land(0, 0, 99, 1, 1));
        Due.is("0.01", x.choke(0), 0);
        Due.yes("land", x.land(1, 0, 3, 1, 1));
        Due.is("0", x.choke(0), 1);
        Due.yes("land", x.land(0, 0, 2, 1, 1));
        Due.is("-0.01", x.choke(0), 0);
        Due.yes("land", x.land(2, 0, 5, 1, 1));
        Due.is("-1 / 4", x.choke(0), 2);
        Due.yes("land", x.land(1, 0, 1, 1, 1));
        Due.is("-1 / 3", x.choke(0), 1);
    }

    private static void farOver() {
        CatchShares x = Due.made(1, 1000000000L, 999999999L, 1);
        Due.part(x, 0, 1);
        Due.part(x, 1, 1);
        for (int i = 0; i < 60; i++) {
            Due.yes("land", x.land(0, 0, 1000000000L, 1, 1));
            Due.yes("land", x.land(1, 0, 1000000000L, 1, 1));
        }
        Due.is("the lesser share", x.choke(0), 1);
        Due.yes("land", x.land(0, 0, 60, 1, 1));
        Due.is("not quite as far", x.choke(0), 1);
        Due.yes("land", x.land(0, 0, 1, 1, 1));
        Due.is("farther", x.choke(0), 0);
        Due.part(x, 2, 1);
        Due.yes("land", x.land(2, 0, 60, 1, 1));
        Due.is("59 times over, of a small share", x.choke(0), 0);
        Due.yes("land", x.land(2, 0, 1, 1, 1));
        Due.is("60 times over", x.choke(0), 2);
    }

    private static void wrapAround() {
        CatchShares x = Due.made(1, 1000000000L, 1000000000L);
        Due.part(x, 0, 1);
        Due.part(x, 1, 1);
        for (int i = 0; i < 100; i++) {
            Due.yes("land", x.land(1, 0, 1000000000L, 1, 1));
            Due.is("one is over", x.choke(0), 1);
        }
        for (int i = 0; i < 99; i++) {
            Due.yes("land", x.land(0, 0, 1000000000L, 1, 1));
            Due.is("one is farther over", x.choke(0), 1);
        }
        Due.yes("land", x.land(0, 0, 1000000000L, 1, 1));
        Due.is("the same", x.choke(0), 0);
    }

    private static void largestShares() {
        CatchShares x = Due.made(1, 1000000000L, 1000000000L, 1000000L, 1000000L);
        for (int stock = 0; stock < 4; stock++) {
            Due.part(x, stock, 1);
        }
        Due.is("2000000000", x.swap(2, 0, 1000, 1, 0, 1000000L), 0);
        Due.is("1999999000", x.swap(3, 1, 1000, 1, 0, 999999L), 0);
        Due.is("no share in the third, all left in the last", x.choke(0), 0);
        Due.yes("land", x.land(0, 0, 1, 1, 1));
        Due.yes("land", x.land(1, 0, 1, 1, 1));
        Due.is("1 of the lesser", x.choke(0), 1);
        Due.yes("land", x.land(0, 0, 1, 1, 1));
        Due.is("2 of the greater", x.choke(0), 0);
    }

    private static void chokeOnTheLastDay() {
        CatchShares x = Due.made(1, 100, 100);
        Due.part(x, 0, 1);
        Due.part(x, 1, 1);
        Due.yes("land", x.land(0, 0, 1, 0, 0));
        Due.yes("land, told on the last day", x.land(1, 0, 2, 0, 99999));
        Due.is("choke", x.choke(0), 1);
    }

    private static void allStocks() {
        CatchShares x = Due.made(12, 12, 12, 12, 12, 12, 12, 12, 12);
        for (int stock = 0; stock < 8; stock++) {
            Due.part(x, stock, 1, 1, 1, 1, 1, 1, 1, 1, 1, 1, 1, 1);
        }
        Due.yes("land", x.land(7, 11, 1, 1, 1));
        Due.is("the last stock for the last holder", x.choke(11), 7);
        Due.is("the first for the one before", x.choke(10), 0);
        Due.none("no holder 12", x.choke(12));
    }

    private static void closesOfNoStock() {
        Trial.noSuchStock(-1, (y, stock) -> y.closes(stock, 1));
        CatchShares x = Due.made(1, 1, 2, 3, 4, 5, 6, 7, 8);
        Due.part(x, 7, 1);
        Due.is("the last stock", x.closes(7, 1), 8);
    }

    private static void closesOfNotParted() {
        Trial busy = Trial.busy();
        busy.none("with weights", y -> y.closes(2, 1));
        busy.none("without weights", y -> y.closes(3, 1));
    }

    /** One holder with a share of 100. */
    private static CatchShares hundred() {
        CatchShares x = Due.made(1, 100);
        Due.part(x, 0, 1);
        return x;
    }

    private static void rateRange() {
        CatchShares x = hundred();
        Due.is("1", x.closes(0, 1), 100);
        Due.is("1000000000", x.closes(0, 1000000000L), 1);
        Trial busy = Trial.busy();
        for (long rate : Trial.outside(1, 1000000000L)) {
            busy.none("rate " + rate, y -> y.closes(0, rate));
        }
        CatchShares y = Due.made(1, 0);
        Due.part(y, 0, 1);
        Due.none("rate 0 of nothing", y.closes(0, 0));
    }

    private static void roundedUp() {
        CatchShares x = hundred();
        Due.is("by 50", x.closes(0, 50), 2);
        Due.is("by 49", x.closes(0, 49), 3);
        Due.is("by 51", x.closes(0, 51), 2);
        Due.is("by 99", x.closes(0, 99), 2);
        Due.is("by 100", x.closes(0, 100), 1);
        Due.is("by 101", x.closes(0, 101), 1);
        CatchShares y = Due.made(1, 1000000000L);
        Due.part(y, 0, 1);
        Due.is("the most by 1", y.closes(0, 1), 1000000000L);
        Due.is("the most by 3", y.closes(0, 3), 333333334L);
        Due.is("the most by all but one", y.closes(0, 999999999L), 2);
        Due.is("the most by the most", y.closes(0, 1000000000L), 1);
    }

    private static void nothingLeft() {
        CatchShares x = hundred();
        Due.yes("land", x.land(0, 0, 99, 1, 1));
        Due.is("one gram", x.closes(0, 1000000000L), 1);
        Due.yes("land", x.land(0, 0, 1, 1, 1));
        Due.is("nothing", x.closes(0, 1), 0);
        Due.is("nothing at the greatest rate", x.closes(0, 1000000000L), 0);
        Due.yes("land", x.land(0, 0, 1, 1, 1));
        Due.is("less than nothing", x.closes(0, 1), 0);
        CatchShares y = Due.made(1, 0);
        Due.part(y, 0, 1);
        Due.is("nothing to part", y.closes(0, 1), 0);
    }

    private static void nothingIsTakenOff() {
        CatchShares x = Due.made(3, 100);
        Due.part(x, 0, 5, 3, 2);
        Due.yes("land", x.land(0, 0, 50, 1, 1));
        Due.is("one has nothing left", x.closes(0, 1), 50);
        Due.yes("land", x.land(0, 0, 1, 1, 1));
        Due.is("one is over", x.closes(0, 1), 50);
        Due.yes("land", x.land(0, 0, 1000000000L, 1, 1));
        Due.is("one is far over", x.closes(0, 1), 50);
        Due.yes("land", x.land(0, 1, 30, 1, 1));
        Due.is("one alone has some left", x.closes(0, 1), 20);
    }

    private static void together() {
        CatchShares x = Due.made(12, 1200);
        Due.part(x, 0, 1, 1, 1, 1, 1, 1, 1, 1, 1, 1, 1, 1);
        Due.is("all holders", x.closes(0, 1), 1200);
        // each alone would take two days
        Due.is("together, then rounded", x.closes(0, 99), 13);
    }

    private static void closesOnTheLastDay() {
        CatchShares x = hundred();
        Due.yes("land, told on the last day", x.land(0, 0, 40, 0, 99999));
        Due.is("closes", x.closes(0, 1), 60);
    }
}
