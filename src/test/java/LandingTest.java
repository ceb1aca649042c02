/** Promises 9 and 10: land, left; of the terms what is said of landings. */
public final class LandingTest {
    public static void main(String[] args) {
        Due.test("9: False when there is no such stock", LandingTest::landOfNoStock);
        Due.test("9: False when there is no such holder", LandingTest::landOfNoHolder);
        Due.test("9: False when it is not parted", LandingTest::landOfNotParted);
        Due.test("9: False when there are 200 landings", LandingTest::twoHundred);
        Due.test("9: False when grams is not 1 .. 1000000000", LandingTest::gramsRange);
        Due.test("9: False when day is not 0 .. 99999", LandingTest::dayRange);
        Due.test("9: False when told is not 0 .. 99999", LandingTest::toldRange);
        Due.test("9: False when told is before day", LandingTest::toldBeforeDay);
        Due.test("9: A landing: true (of one without a share, too)", LandingTest::landWithoutShare);
        Due.test("10: NONE when there is no such stock", LandingTest::leftOfNoStock);
        Due.test("10: NONE when there is no such holder", LandingTest::leftOfNoHolder);
        Due.test("10: LEFT on a day (any)", LandingTest::anyDay);
        Due.test("10: NONE (which it may be, too)", LandingTest::leftIsNone);
        Due.test("Terms: landings told up to that day", LandingTest::toldUpToTheDay);
        Due.test("Terms: LEFT below 0, too", LandingTest::leftBelowNothing);
        Due.test("Terms: LEFT is its SHARE (as it is now) less", LandingTest::shareAsItIsNow);
        Due.test("Terms: LEFT of a holder in a stock", LandingTest::leftOfEach);
        Due.end();
    }

    /** One holder with a share of 50. */
    private static CatchShares fifty() {
        CatchShares x = Due.made(1, 50);
        Due.part(x, 0, 1);
        return x;
    }

    private static void landOfNoStock() {
        Trial.noSuchStock(0, (y, stock) -> Trial.bit(y.land(stock, 0, 1, 0, 0)));
        CatchShares x = Due.made(1, 1, 2, 3, 4, 5, 6, 7, 8);
        Due.part(x, 7, 1);
        Due.yes("the last stock", x.land(7, 0, 1, 0, 0));
        Due.is("left", x.left(7, 0, 0), 7);
    }

    private static void landOfNoHolder() {
        Trial.noSuchHolder(0, (y, holder) -> Trial.bit(y.land(0, holder, 1, 0, 0)));
        CatchShares x = Due.made(12, 5);
        Due.yes("weight", x.weight(0, 11, 1));
        Due.is("part", x.part(0), 1);
        Due.yes("the last holder", x.land(0, 11, 1, 0, 0));
        Due.is("left", x.left(0, 11, 0), 4);
    }

    private static void landOfNotParted() {
        Trial busy = Trial.busy();
        busy.no("with weights", y -> y.land(2, 0, 1, 0, 0));
        busy.no("without weights", y -> y.land(3, 0, 1, 0, 0));
        CatchShares x = Due.made(1, 0);
        Due.no("before", x.land(0, 0, 1, 0, 0));
        Due.part(x, 0, 1);
        Due.yes("after, though nothing was to part", x.land(0, 0, 1, 0, 0));
    }

    private static void landAlmostFull(CatchShares x) {
        x.stock(100);
        x.stock(100);
        x.holder(0);
        x.holder(1);
        Due.part(x, 0, 1, 1);
        Due.part(x, 1, 1, 1);
        for (int i = 0; i < 199; i++) {
            Due.yes("landing " + i, x.land(i % 2, i / 2 % 2, 1000000000L, i, i));
        }
    }

    private static void twoHundred() {
        CatchShares x = new CatchShares();
        landAlmostFull(x);
        Due.no("refused, not counted", x.land(0, 0, 0, 0, 0));
        Due.yes("the last one", x.land(1, 1, 1000000000L, 199, 199));
        Due.no("one more", x.land(0, 0, 1, 0, 0));
        Due.is("all of 0", x.told(0, 4), 100000000000L);
        Due.is("all of 1", x.told(1, 4), 100000000000L);
        Due.is("left in all", x.left(0, 0, 99999), 50 - 50000000000L);
        Due.is("left before the last", x.left(1, 1, 198), 50 - 49000000000L);
        Due.is("left with the last", x.left(1, 1, 199), 50 - 50000000000L);
        Trial full = new Trial(y -> {
            landAlmostFull(y);
            y.land(0, 0, 7, 3, 4);
        });
        full.no("of the same", y -> y.land(0, 0, 7, 3, 4));
        full.no("of the other stock", y -> y.land(1, 1, 1, 0, 99999));
        full.no("out of its range, too", y -> y.land(1, 1, 0, 0, 0));
    }

    private static void gramsRange() {
        CatchShares x = fifty();
        Due.yes("1", x.land(0, 0, 1, 0, 0));
        Due.is("left", x.left(0, 0, 0), 49);
        Due.yes("1000000000", x.land(0, 0, 1000000000L, 1, 1));
        Due.is("left", x.left(0, 0, 1), 49 - 1000000000L);
        Due.is("landed", x.told(0, 4), 1000000001L);
        Trial busy = Trial.busy();
        for (long grams : Trial.outside(1, 1000000000L)) {
            busy.no("grams " + grams, y -> y.land(0, 0, grams, 1, 1));
        }
    }

    private static void dayRange() {
        CatchShares x = fifty();
        Due.yes("0", x.land(0, 0, 1, 0, 0));
        Due.yes("99999", x.land(0, 0, 2, 99999, 99999));
        Due.is("landed", x.told(0, 4), 3);
        Trial busy = Trial.busy();
        for (int day : Trial.outsideInts(0, 99999)) {
            busy.no("day " + day + ", told then", y -> y.land(0, 0, 1, day, day));
            busy.no("day " + day + ", told on the last day", y -> y.land(0, 0, 1, day, 99999));
            busy.no("day " + day + ", told on the first day", y -> y.land(0, 0, 1, day, 0));
        }
    }

    private static void toldRange() {
        CatchShares x = fifty();
        Due.yes("0", x.land(0, 0, 1, 0, 0));
        Due.yes("99999", x.land(0, 0, 2, 0, 99999));
        Due.is("on 0", x.left(0, 0, 0), 49);
        Due.is("on 99998", x.left(0, 0, 99998), 49);
        Due.is("on 99999", x.left(0, 0, 99999), 47);
        Trial busy = Trial.busy();
        for (int told : Trial.outsideInts(0, 99999)) {
            busy.no("told " + told, y -> y.land(0, 0, 1, 0, told));
            busy.no("told " + told + " of the last day", y -> y.land(0, 0, 1, 99999, told));
        }
    }

    private static void toldBeforeDay() {
        CatchShares x = fifty();
        Due.yes("the same day", x.land(0, 0, 1, 5, 5));
        Due.yes("a day later", x.land(0, 0, 1, 5, 6));
        Due.is("left", x.left(0, 0, 6), 48);
        Trial busy = Trial.busy();
        busy.no("a day before", y -> y.land(0, 0, 1, 5, 4));
        busy.no("the first day of the second", y -> y.land(0, 0, 1, 1, 0));
        busy.no("long before", y -> y.land(0, 0, 1, 99999, 0));
        busy.no("the last day but one of the last", y -> y.land(0, 0, 1, 99999, 99998));
    }

    private static void landWithoutShare() {
        CatchShares x = Due.made(2, 50);
        Due.part(x, 0, 1, 0);
        Due.yes("without a share", x.land(0, 1, 3, 0, 0));
        Due.is("left", x.left(0, 1, 0), -3);
        Due.yes("more than the share", x.land(0, 0, 51, 0, 0));
        Due.is("left", x.left(0, 0, 0), -1);
    }

    private static void leftOfNoStock() {
        Trial.noSuchStock(-1, (y, stock) -> y.left(stock, 0, 0));
        Due.is("the last stock", Due.made(1, 1, 2, 3, 4, 5, 6, 7, 8).left(7, 0, 0), 0);
    }

    private static void leftOfNoHolder() {
        Trial.noSuchHolder(-1, (y, holder) -> y.left(0, holder, 0));
        Due.is("the last holder", Due.made(12, 1).left(0, 11, 0), 0);
    }

    private static void anyDay() {
        CatchShares x = fifty();
        Due.yes("land on the first day", x.land(0, 0, 1, 0, 0));
        Due.yes("land on the last day", x.land(0, 0, 2, 99999, 99999));
        Due.is("the least day", x.left(0, 0, Integer.MIN_VALUE), 50);
        Due.is("-1", x.left(0, 0, -1), 50);
        Due.is("0", x.left(0, 0, 0), 49);
        Due.is("100000", x.left(0, 0, 100000), 47);
        Due.is("the greatest day", x.left(0, 0, Integer.MAX_VALUE), 47);
        Due.is("not parted", Due.made(1, 50).left(0, 0, 5), 0);
    }

    private static void leftIsNone() {
        CatchShares x = fifty();
        Due.yes("land", x.land(0, 0, 51, 0, 0));
        Due.is("left", x.left(0, 0, 0), -1);
    }

    private static void toldUpToTheDay() {
        CatchShares x = fifty();
        Due.yes("land on 3, told on 8", x.land(0, 0, 10, 3, 8));
        Due.yes("land on 4, told on 6", x.land(0, 0, 5, 4, 6));
        Due.yes("land on 8, told on 8", x.land(0, 0, 1, 8, 8));
        Due.is("on 5", x.left(0, 0, 5), 50);
        Due.is("on 6", x.left(0, 0, 6), 45);
        Due.is("on 7", x.left(0, 0, 7), 45);
        Due.is("on 8", x.left(0, 0, 8), 34);
        Due.is("on 9", x.left(0, 0, 9), 34);
    }

    private static void leftBelowNothing() {
        CatchShares x = fifty();
        Due.yes("land", x.land(0, 0, 50, 1, 1));
        Due.is("nothing", x.left(0, 0, 1), 0);
        Due.yes("land", x.land(0, 0, 10, 1, 1));
        Due.is("below", x.left(0, 0, 1), -10);
        Due.yes("land", x.land(0, 0, 1000000000L, 1, 1));
        Due.yes("land", x.land(0, 0, 1000000000L, 1, 1));
        Due.yes("land", x.land(0, 0, 1000000000L, 1, 1));
        Due.is("farther below than an int", x.left(0, 0, 1), -3000000010L);
    }

    private static void shareAsItIsNow() {
        CatchShares x = Due.made(2, 100);
        Due.part(x, 0, 3, 1);
        Due.yes("land", x.land(0, 0, 85, 9, 9));
        Due.is("before", x.left(0, 0, 9), -10);
        Due.is("transfer", x.transfer(0, 1, 0, 9), 0);
        Due.is("on an earlier day, too", x.left(0, 0, 5), 84);
        Due.is("now", x.left(0, 0, 9), -1);
        Due.is("of the other", x.left(0, 1, 9), 16);
    }

    private static void leftOfEach() {
        CatchShares x = Due.made(2, 100, 60);
        Due.part(x, 0, 3, 1);
        Due.part(x, 1, 1, 1);
        Due.yes("land", x.land(0, 0, 7, 1, 1));
        Due.is("of the one", x.left(0, 0, 1), 68);
        Due.is("of the other holder", x.left(0, 1, 1), 25);
        Due.is("of the other stock", x.left(1, 0, 1), 30);
    }
}
