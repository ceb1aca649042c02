/** Promises 4 to 8: weight, aside, follows, part, given; of the terms what is said of weights, asides and shares. */
public final class PartTest {
    public static void main(String[] args) {
        weights();
        asides();
        following();
        parting();
        carriedIn();
        giving();
        Due.end();
    }

    private static void weights() {
        Due.test("4: False when there is no such stock", PartTest::weightOfNoStock);
        Due.test("4: False when there is no such holder", PartTest::weightOfNoHolder);
        Due.test("4: False when it is parted", PartTest::weightOfParted);
        Due.test("4: False when w is not 0 .. 1000000", PartTest::weightRange);
        Due.test("4: A weight (anew, not added)", PartTest::weightAnew);
        Due.test("Terms: for each holder a WEIGHT (0 at first)", PartTest::weightAtFirst);
    }

    private static void asides() {
        Due.test("5: False when there is no such stock", PartTest::asideOfNoStock);
        Due.test("5: False when it is parted", PartTest::asideOfParted);
        Due.test("5: False when grams is not 0 .. ALLOWED", PartTest::asideRange);
        Due.test("5: What is set aside (anew, not added)", PartTest::asideAnew);
        Due.test("Terms: an ASIDE (0 at first)", PartTest::asideAtFirst);
    }

    private static void following() {
        Due.test("6: False when there are none such", PartTest::followingNone);
        Due.test("6: False when it is parted", PartTest::followingOfParted);
        Due.test("6: False when the other one is not parted", PartTest::followingNotParted);
        Due.test("6: False when it follows already", PartTest::followingAlready);
        Due.test("6: A stock FOLLOWS another one", PartTest::followingInChains);
    }

    private static void parting() {
        Due.test("7: NONE when there is none such", PartTest::partOfNone);
        Due.test("7: NONE when it is parted", PartTest::partOfParted);
        Due.test("7: NONE when all weights are 0", PartTest::partWithoutWeights);
        Due.test("7: how many holders have a share above 0", PartTest::partCounts);
        Due.test("Terms: whole = ALLOWED less ASIDE", PartTest::wholeToPart);
        Due.test("Terms: rounded down", PartTest::roundedDown);
        Due.test("Terms: what is over goes to the greatest rests", PartTest::greatestRests);
        Due.test("Terms: of the same rest the lesser number first", PartTest::sameRests);
        Due.test("Terms: at most 12 holders, weights as large as may be", PartTest::largestWeights);
    }

    private static void carriedIn() {
        Due.test("Terms: CARRIED of that one is added to each share", PartTest::carriedToEach);
        Due.test("Terms: CARRIED is added then (when it is parted)", PartTest::carriedThen);
        Due.test("Terms: a share below 0 becomes 0", PartTest::shareBelowNothing);
        Due.test("Terms: CARRIED to a holder without weight", PartTest::carriedWithoutWeight);
        Due.test("Terms: CARRIED of a stock that follows, too", PartTest::carriedOn);
    }

    private static void giving() {
        Due.test("8: NONE when there is no such stock", PartTest::givenOfNoStock);
        Due.test("8: NONE when there is no such holder", PartTest::givenOfNoHolder);
        Due.test("Terms: each holder has a SHARE (grams; 0 before)", PartTest::givenBefore);
        Due.test("8: A holder's SHARE (not what is left)", PartTest::givenAfter);
    }

    private static void weightOfNoStock() {
        Trial.noSuchStock(0, (y, stock) -> Trial.bit(y.weight(stock, 0, 3)));
        Due.yes("the last stock", Due.made(1, 1, 2, 3, 4, 5, 6, 7, 8).weight(7, 0, 1));
    }

    private static void weightOfNoHolder() {
        Trial.noSuchHolder(0, (y, holder) -> Trial.bit(y.weight(2, holder, 3)));
        Due.yes("the last holder", Due.made(12, 1).weight(0, 11, 1));
    }

    private static void weightOfParted() {
        CatchShares x = Due.made(1, 100, 100);
        Due.part(x, 0, 1);
        Due.yes("the other stock is not", x.weight(1, 0, 5));
        Trial busy = Trial.busy();
        busy.no("another weight", y -> y.weight(0, 0, 6));
        busy.no("the same weight", y -> y.weight(0, 0, 5));
        busy.no("no weight", y -> y.weight(1, 2, 0));
        busy.no("no weight that may be", y -> y.weight(0, 0, -1));
        CatchShares z = Due.made(2, 100);
        Due.yes("cap", z.cap(0, 50));
        Due.part(z, 0, 1, 1);
        Due.no("more", z.weight(0, 0, 2));
        Due.no("capped by the weight that was", z.capped(0));
    }

    private static void weightRange() {
        CatchShares x = Due.made(3, 1000001);
        Due.yes("1000000", x.weight(0, 0, 1000000));
        Due.yes("1", x.weight(0, 1, 1));
        Due.yes("5", x.weight(0, 2, 5));
        Due.yes("0", x.weight(0, 2, 0));
        Due.is("part", x.part(0), 2);
        Due.shares("by the largest and the least", x, 0, 1000000, 1, 0);
        Trial busy = Trial.busy();
        for (long w : Trial.outside(0, 1000000)) {
            busy.no("weight " + w, y -> y.weight(2, 1, w));
            busy.no("first weight " + w, y -> y.weight(3, 1, w));
        }
    }

    private static void weightAnew() {
        CatchShares x = Due.made(2, 100, 100);
        Due.weigh(x, 0, 7, 1);
        Due.weigh(x, 0, 1, 3);
        Due.weigh(x, 1, 4, 1);
        Due.is("part", x.part(0), 2);
        Due.is("part of the other", x.part(1), 2);
        Due.shares("of the last weights", x, 0, 25, 75);
        Due.shares("of another stock", x, 1, 80, 20);
    }

    private static void weightAtFirst() {
        CatchShares x = Due.made(3, 100);
        Due.none("all are 0", x.part(0));
        Due.yes("weight", x.weight(0, 1, 1));
        Due.is("one has all", x.part(0), 1);
        Due.shares("the others nothing", x, 0, 0, 100, 0);
    }

    private static void asideOfNoStock() {
        Trial.noSuchStock(0, (y, stock) -> Trial.bit(y.aside(stock, 1)));
        Due.yes("the last stock", Due.made(1, 1, 2, 3, 4, 5, 6, 7, 8).aside(7, 8));
    }

    private static void asideOfParted() {
        Trial busy = Trial.busy();
        busy.no("some", y -> y.aside(0, 10));
        busy.no("as before", y -> y.aside(0, 0));
        busy.no("more than ALLOWED", y -> y.aside(0, 1001));
        CatchShares x = Due.made(1, 100, 100);
        Due.part(x, 0, 1);
        Due.yes("the other stock is not", x.aside(1, 10));
    }

    private static void asideRange() {
        CatchShares x = Due.made(1, 100, 0, 1000000000L);
        Due.yes("ALLOWED", x.aside(0, 100));
        Due.is("told", x.told(0, 1), 100);
        Due.yes("0", x.aside(0, 0));
        Due.is("told", x.told(0, 1), 0);
        Due.yes("0 of 0", x.aside(1, 0));
        Due.no("1 of 0", x.aside(1, 1));
        Due.is("told", x.told(1, 1), 0);
        Due.yes("1000000000", x.aside(2, 1000000000L));
        Due.no("1000000001", x.aside(2, 1000000001L));
        Due.is("told", x.told(2, 1), 1000000000L);
        Trial busy = Trial.busy();
        for (long grams : Trial.outside(0, 500)) {
            busy.no("aside " + grams, y -> y.aside(2, grams));
        }
        for (long grams : Trial.outside(0, 400)) {
            busy.no("first aside " + grams, y -> y.aside(3, grams));
        }
    }

    private static void asideAnew() {
        CatchShares x = Due.made(1, 100, 100);
        Due.yes("60", x.aside(0, 60));
        Due.yes("70 is not 130", x.aside(0, 70));
        Due.is("told", x.told(0, 1), 70);
        Due.is("of another stock", x.told(1, 1), 0);
        Due.yes("30 is less", x.aside(0, 30));
        Due.part(x, 0, 1);
        Due.shares("the rest", x, 0, 70);
    }

    private static void asideAtFirst() {
        CatchShares x = Due.made(1, 100);
        Due.is("told", x.told(0, 1), 0);
        Due.part(x, 0, 1);
        Due.shares("all is parted", x, 0, 100);
    }

    private static void followingNone() {
        Trial.noSuchStock(0, (y, stock) -> Trial.bit(y.follows(stock, 0)));
        Trial.noSuchStock(0, (y, old) -> Trial.bit(y.follows(3, old)));
        Trial.noSuchStock(0, (y, both) -> Trial.bit(y.follows(both, both)));
        CatchShares x = Due.made(1, 1, 2, 3, 4, 5, 6, 7, 8);
        Due.part(x, 7, 1);
        Due.yes("the last ones", x.follows(6, 7));
        Due.is("told", x.told(6, 6), 7);
    }

    private static void followingOfParted() {
        Trial busy = Trial.busy();
        busy.no("both are parted", y -> y.follows(1, 0));
        busy.no("itself", y -> y.follows(0, 0));
        busy.no("one that is not", y -> y.follows(0, 3));
        Trial followed = new Trial(y -> {
            followedChain(y);
            Due.part(y, 2, 1);
        });
        followed.no("follows already, too", y -> y.follows(2, 1));
        followed.no("the same already, too", y -> y.follows(2, 0));
    }

    private static void followedChain(CatchShares x) {
        for (int i = 0; i < 4; i++) {
            x.stock(100);
        }
        x.holder(0);
        Due.part(x, 0, 1);
        Due.part(x, 1, 1);
        x.follows(2, 0);
    }

    private static void followingNotParted() {
        Trial busy = Trial.busy();
        busy.no("one with weights", y -> y.follows(3, 2));
        busy.no("itself", y -> y.follows(3, 3));
        CatchShares x = Due.made(1, 100, 100);
        Due.no("nothing is parted", x.follows(0, 1));
        Due.part(x, 1, 1);
        Due.yes("now it is", x.follows(0, 1));
        Due.is("told", x.told(0, 6), 1);
    }

    private static void followingAlready() {
        Trial chain = new Trial(PartTest::followedChain);
        chain.no("the same", y -> y.follows(2, 0));
        chain.no("another", y -> y.follows(2, 1));
        chain.no("one that is not parted", y -> y.follows(2, 3));
        CatchShares x = Due.made(1, 100, 100);
        Due.part(x, 0, 1);
        Due.yes("the first time", x.follows(1, 0));
        Due.no("the second time", x.follows(1, 0));
        Due.is("told", x.told(1, 6), 0);
    }

    private static void followingInChains() {
        CatchShares x = Due.made(1, 100, 100, 100, 100);
        Due.is("nothing at first", x.told(1, 6), -1);
        Due.part(x, 0, 1);
        Due.yes("1 follows 0", x.follows(1, 0));
        Due.yes("2 follows 0, too", x.follows(2, 0));
        Due.part(x, 1, 1);
        Due.yes("3 follows 1", x.follows(3, 1));
        Due.is("told of 1", x.told(1, 6), 0);
        Due.is("told of 2", x.told(2, 6), 0);
        Due.is("told of 3", x.told(3, 6), 1);
        Due.is("told of 0", x.told(0, 6), -1);
    }

    private static void partOfNone() {
        Trial.noSuchStock(-1, (y, stock) -> y.part(stock));
        CatchShares x = Due.made(1, 1, 2, 3, 4, 5, 6, 7, 8);
        Due.part(x, 7, 1);
        Due.shares("the last stock", x, 7, 8);
    }

    private static void partOfParted() {
        Trial busy = Trial.busy();
        busy.none("parted", y -> y.part(0));
        Trial changed = new Trial(y -> {
            followedChain(y);
            Due.part(y, 2, 1);
            Due.is("swap", y.swap(2, 0, 1, 1, 0, 10), 0);
            Due.yes("land", y.land(0, 0, 5, 1, 1));
        });
        changed.none("swapped since: not parted anew", y -> y.part(2));
        changed.none("landed since: not parted anew", y -> y.part(0));
        Trial nothing = new Trial(y -> {
            y.stock(0);
            y.holder(0);
            y.weight(0, 0, 1);
            y.part(0);
        });
        nothing.none("parted with nothing to part", y -> y.part(0));
    }

    private static void partWithoutWeights() {
        Trial.busy().none("none were told", y -> y.part(3));
        new Trial(y -> y.stock(5)).none("no holders", y -> y.part(0));
        Trial takenBack = new Trial(y -> {
            followedChain(y);
            y.weight(2, 0, 3);
            y.weight(2, 0, 0);
        });
        takenBack.none("taken back, though something is carried", y -> y.part(2));
        CatchShares x = Due.made(12, 7);
        Due.none("none", x.part(0));
        Due.is("not parted", x.told(0, 2), 0);
        Due.yes("of the last holder alone", x.weight(0, 11, 1));
        Due.is("one", x.part(0), 1);
        Due.is("parted", x.told(0, 2), 1);
        Due.is("given", x.given(0, 11), 7);
    }

    private static void partCounts() {
        CatchShares x = Due.made(12, 0, 1, 11, 12, 100, 24);
        for (int s = 0; s < 6; s++) {
            Due.weigh(x, s, 1, 1, 1, 1, 1, 1, 1, 1, 1, 1, 1, 1);
        }
        Due.is("nothing to part", x.part(0), 0);
        Due.is("parted all the same", x.told(0, 2), 1);
        Due.is("one gram", x.part(1), 1);
        Due.is("eleven", x.part(2), 11);
        Due.is("twelve", x.part(3), 12);
        Due.yes("all is set aside", x.aside(4, 100));
        Due.is("all is set aside", x.part(4), 0);
        Due.yes("a weight of 0", x.weight(5, 4, 0));
        Due.is("without one", x.part(5), 11);
    }

    private static void wholeToPart() {
        CatchShares x = Due.made(2, 100, 100, 1000000000L, 1000000000L);
        Due.yes("aside", x.aside(0, 99));
        Due.part(x, 0, 1, 1);
        Due.shares("one gram", x, 0, 1, 0);
        Due.yes("aside", x.aside(1, 100));
        Due.part(x, 1, 1, 1);
        Due.shares("nothing", x, 1, 0, 0);
        Due.yes("aside", x.aside(2, 999999999L));
        Due.part(x, 2, 0, 1);
        Due.shares("one of the most", x, 2, 0, 1);
        Due.part(x, 3, 0, 1);
        Due.shares("the most", x, 3, 0, 1000000000L);
    }

    private static void roundedDown() {
        CatchShares x = Due.made(2, 10, 10, 3);
        // 9.09 and 0.9, the gram over goes to the second
        Due.part(x, 0, 10, 1);
        Due.shares("down, and the gram over to the other", x, 0, 9, 1);
        Due.part(x, 1, 4, 1);
        Due.shares("whole numbers", x, 1, 8, 2);
        Due.part(x, 2, 1000000, 1);
        Due.shares("a rest just below a gram", x, 2, 3, 0);
    }

    private static void greatestRests() {
        CatchShares x = Due.made(4, 10, 10, 1000000000L);
        // 10 by 1, 2, 4, 0 of 7: rests 3, 6, 5, 0, two grams over
        Due.part(x, 0, 1, 2, 4, 0);
        Due.shares("two of three rests", x, 0, 1, 3, 6, 0);
        // 10 by 1, 1, 3, 2 of 7: rests 3, 3, 2, 6, two grams over
        Due.part(x, 1, 1, 1, 3, 2);
        Due.shares("the last holder first", x, 1, 2, 1, 4, 3);
        Due.part(x, 2, 1000000, 999999, 999998, 7);
        Due.shares("great weights", x, 2, 333332889, 333332556, 333332222, 2333);
        Due.is("nothing lost", x.told(2, 3), 1000000000L);
    }

    private static void sameRests() {
        CatchShares x = Due.made(4, 11, 2, 3);
        // 3.3, 3.3, 3.3, 1.1
        Due.part(x, 0, 3, 3, 3, 1);
        Due.shares("one gram of three same rests", x, 0, 4, 3, 3, 1);
        Due.part(x, 1, 1, 1, 1, 1);
        Due.shares("two grams of four", x, 1, 1, 1, 0, 0);
        Due.part(x, 2, 0, 1, 1, 0);
        Due.shares("not to those without a rest", x, 2, 0, 2, 1, 0);
    }

    private static void largestWeights() {
        CatchShares x = Due.made(12, 1000000000L);
        Due.part(x, 0, 1000000, 1000000, 1000000, 1000000, 1000000, 1000000,
            1000000, 1000000, 1000000, 1000000, 1000000, 999999);
        Due.is("first of all", x.given(0, 0), 83333341);
        Due.is("last of all", x.given(0, 11), 83333257);
        Due.is("all of all", x.told(0, 3), 1000000000L);
    }

    private static void carriedToEach() {
        CatchShares x = Due.made(12, 1200, 12);
        Due.part(x, 0, 1, 1, 1, 1, 1, 1, 1, 1, 1, 1, 1, 1);
        Due.yes("land", x.land(0, 11, 95, 1, 1));
        Due.yes("follows", x.follows(1, 0));
        Due.part(x, 1, 1, 1, 1, 1, 1, 1, 1, 1, 1, 1, 1, 1);
        Due.shares("each a tenth, the last what is left", x, 1, 11, 11, 11, 11, 11, 11, 11, 11, 11, 11, 11, 6);
    }

    private static void carriedThen() {
        CatchShares x = Due.made(1, 100, 100);
        Due.part(x, 0, 1);
        Due.yes("weight", x.weight(1, 0, 1));
        Due.yes("land before", x.land(0, 0, 91, 1, 1));
        Due.yes("follows", x.follows(1, 0));
        Due.is("nothing is carried by that", x.given(1, 0), 0);
        Due.yes("land after it, told on the last day", x.land(0, 0, 14, 1, 99999));
        Due.yes("penalty after it", x.penalty(2, 1));
        Due.is("part", x.part(1), 1);
        Due.is("5 over, twice", x.given(1, 0), 90);
        Due.yes("land later", x.land(0, 0, 50, 2, 2));
        Due.yes("penalty later", x.penalty(9, 1));
        Due.is("carried then", x.given(1, 0), 90);
        Due.is("nothing is taken from the one before", x.given(0, 0), 100);
    }

    private static void shareBelowNothing() {
        CatchShares x = Due.made(4, 40, 40);
        Due.part(x, 0, 1, 1, 1, 1);
        Due.yes("9 over", x.land(0, 0, 19, 1, 1));
        Due.yes("10 over", x.land(0, 1, 20, 1, 1));
        Due.yes("11 over", x.land(0, 2, 21, 1, 1));
        Due.yes("far over", x.land(0, 3, 1000000000L, 1, 1));
        Due.yes("follows", x.follows(1, 0));
        Due.weigh(x, 1, 1, 1, 1, 1);
        Due.is("one has a share above 0", x.part(1), 1);
        Due.shares("1, 0, -1, far below", x, 1, 1, 0, 0, 0);
        Due.is("all", x.told(1, 3), 1);
    }

    private static void carriedWithoutWeight() {
        CatchShares x = Due.made(2, 200, 100);
        Due.part(x, 0, 1, 1);
        Due.yes("follows", x.follows(1, 0));
        Due.yes("weight", x.weight(1, 0, 1));
        Due.is("the second counts, too", x.part(1), 2);
        Due.shares("a tenth alone", x, 1, 110, 10);
    }

    private static void carriedOn() {
        CatchShares x = Due.made(4, 400, 100, 0);
        Due.part(x, 0, 1, 1, 1, 1);
        Due.yes("land", x.land(0, 0, 95, 1, 1));
        Due.yes("land", x.land(0, 1, 130, 1, 1));
        Due.yes("land", x.land(0, 2, 100, 1, 1));
        Due.yes("land", x.land(0, 3, 40, 2, 2));
        Due.yes("follows", x.follows(1, 0));
        Due.weigh(x, 1, 1, 1, 2);
        Due.is("part", x.part(1), 3);
        // 25 + 5, 25 - 30, 50 + 0, 0 + 10
        Due.shares("carried", x, 1, 30, 0, 50, 10);
        Due.yes("follows", x.follows(2, 1));
        Due.yes("weight", x.weight(2, 0, 1));
        Due.yes("penalty", x.penalty(2, 1));
        Due.yes("land", x.land(1, 2, 51, 3, 3));
        Due.is("nothing to part, something carried", x.part(2), 2);
        Due.shares("carried on", x, 2, 3, 0, 0, 1);
    }

    private static void givenOfNoStock() {
        Trial.noSuchStock(-1, (y, stock) -> y.given(stock, 0));
        Due.is("the last stock", Due.made(1, 1, 2, 3, 4, 5, 6, 7, 8).given(7, 0), 0);
    }

    private static void givenOfNoHolder() {
        Trial.noSuchHolder(-1, (y, holder) -> y.given(0, holder));
        Due.is("the last holder", Due.made(12, 1).given(0, 11), 0);
    }

    private static void givenBefore() {
        CatchShares x = Due.made(2, 9);
        Due.shares("no weights", x, 0, 0, 0);
        Due.weigh(x, 0, 2, 1);
        Due.shares("not parted", x, 0, 0, 0);
        Due.is("part", x.part(0), 2);
        Due.shares("parted", x, 0, 6, 3);
        Due.is("a later holder", x.holder(5), 2);
        Due.is("has nothing", x.given(0, 2), 0);
    }

    private static void givenAfter() {
        CatchShares x = Due.made(2, 9);
        Due.part(x, 0, 2, 1);
        Due.yes("land", x.land(0, 0, 40, 1, 1));
        Due.shares("landings do not change it", x, 0, 6, 3);
    }
}
