/** Promises 18 and 19: owns, hold. */
public final class OwnerTest {
    private static final long WHOLE = 1000000000000000000L;
    private static final long HUNDREDTH = WHOLE / 100;

    public static void main(String[] args) {
        Due.test("18: False when there are none such", OwnerTest::ownsOfNone);
        Due.test("18: 0 .. 100 hundredths; False when it is another", OwnerTest::hundredthsRange);
        Due.test("18: 0 of itself: true", OwnerTest::nothingOfItself);
        Due.test("18: False when an owner would have a part of itself", OwnerTest::partOfItself);
        Due.test("Terms: a part of itself, through others, too", OwnerTest::partThroughOthers);
        Due.test("Terms: a part of itself, through all others", OwnerTest::partThroughAll);
        Due.test("18: 0 of another one closes no circle", OwnerTest::nothingClosesNoCircle);
        Due.test("18: False when the own parts would be more than 100", OwnerTest::hundredAtMost);
        Due.test("18: the own parts of the other one (by all others)", OwnerTest::hundredByAll);
        Due.test("18: the own parts of the other one (not those of the owner)", OwnerTest::hundredOfEach);
        Due.test("18: An owner's own part (anew, not added)", OwnerTest::ownsAnew);
        Due.test("19: NONE when there are none such", OwnerTest::holdOfNone);
        Due.test("Terms: of himself it is one", OwnerTest::holdOfHimself);
        Due.test("19: in parts of 100 to the 9th (the least and the greatest)", OwnerTest::leastAndGreatest);
        Due.test("Terms: as the sum over all ways", OwnerTest::sumOverAllWays);
        Due.test("Terms: over all owners between (all of them)", OwnerTest::longestWay);
        Due.test("19: HIS HOLD is nothing", OwnerTest::holdOfNothing);
        Due.end();
    }

    private static void ownsOfNone() {
        Trial busy = Trial.busy();
        for (int owner : Trial.noneOf(10)) {
            busy.no("owner " + owner, y -> y.owns(owner, 1, 1));
            busy.no("other " + owner, y -> y.owns(0, owner, 1));
            busy.no("0 of itself " + owner, y -> y.owns(owner, owner, 0));
        }
        CatchShares x = new CatchShares();
        Due.yes("9 of 0", x.owns(9, 0, 7));
        Due.is("hold", x.hold(9, 0), 7 * HUNDREDTH);
        Due.yes("8 of 9", x.owns(8, 9, 100));
        Due.is("hold through 9", x.hold(8, 0), 7 * HUNDREDTH);
    }

    private static void hundredthsRange() {
        CatchShares x = new CatchShares();
        Due.yes("100", x.owns(0, 1, 100));
        Due.is("hold", x.hold(0, 1), WHOLE);
        Due.yes("1", x.owns(0, 1, 1));
        Due.is("hold", x.hold(0, 1), HUNDREDTH);
        Due.yes("0", x.owns(0, 1, 0));
        Due.is("hold", x.hold(0, 1), 0);
        Trial busy = Trial.busy();
        for (int hundredths : new int[] {-1, 101, Integer.MIN_VALUE, Integer.MAX_VALUE, 256, 65536, 65537}) {
            busy.no("hundredths " + hundredths, y -> y.owns(0, 1, hundredths));
            busy.no("first hundredths " + hundredths, y -> y.owns(0, 5, hundredths));
            busy.no("of itself " + hundredths, y -> y.owns(0, 0, hundredths));
        }
    }

    private static void nothingOfItself() {
        CatchShares x = new CatchShares();
        for (int owner = 0; owner < 10; owner++) {
            Due.yes("0 of itself", x.owns(owner, owner, 0));
            Due.is("hold", x.hold(owner, owner), WHOLE);
        }
        Due.yes("owns", x.owns(0, 1, 100));
        Due.yes("0 of itself, though all of it is another's", x.owns(1, 1, 0));
        Due.is("hold", x.hold(0, 1), WHOLE);
    }

    private static void partOfItself() {
        Trial busy = Trial.busy();
        for (int owner = 0; owner < 10; owner++) {
            int it = owner;
            busy.no("1 of " + owner, y -> y.owns(it, it, 1));
        }
        busy.no("100 of itself", y -> y.owns(5, 5, 100));
        new Trial(y -> { }).no("nothing there yet", y -> y.owns(0, 0, 1));
    }

    private static void partThroughOthers() {
        Trial busy = Trial.busy();
        busy.no("through one", y -> y.owns(1, 0, 1));
        busy.no("through one, all", y -> y.owns(1, 0, 100));
        busy.no("through two", y -> y.owns(2, 0, 1));
        busy.no("through the lesser part", y -> y.owns(2, 1, 1));
        CatchShares x = new CatchShares();
        Due.yes("0 of 1", x.owns(0, 1, 1));
        Due.yes("1 of 2", x.owns(1, 2, 1));
        Due.yes("0 of 2, too, is no circle", x.owns(0, 2, 1));
        Due.no("2 of 0", x.owns(2, 0, 1));
        Due.yes("0 no more of 2", x.owns(0, 2, 0));
        Due.no("2 of 0 through 1 still", x.owns(2, 0, 1));
        Due.yes("1 no more of 2", x.owns(1, 2, 0));
        Due.yes("2 of 0", x.owns(2, 0, 1));
        Due.no("1 of 2 now is one", x.owns(1, 2, 1));
    }

    private static void makeLongest(CatchShares x) {
        for (int i = 9; i > 0; i--) {
            Due.yes("owns", x.owns(i, i - 1, 1));
        }
    }

    private static void partThroughAll() {
        Trial longest = new Trial(OwnerTest::makeLongest);
        longest.no("1, though the hold is the least", y -> y.owns(0, 9, 1));
        longest.no("100", y -> y.owns(0, 9, 100));
        longest.no("a circle of two within", y -> y.owns(4, 5, 1));
        CatchShares x = new CatchShares();
        makeLongest(x);
        Due.yes("cut", x.owns(5, 4, 0));
        Due.yes("0 of 9", x.owns(0, 9, 1));
        Due.no("5 of 4 is the last link now", x.owns(5, 4, 1));
    }

    private static void nothingClosesNoCircle() {
        CatchShares x = new CatchShares();
        makeLongest(x);
        Due.yes("0 of the first", x.owns(0, 9, 0));
        Due.yes("0 of the next", x.owns(0, 1, 0));
        Due.is("no hold", x.hold(0, 9), 0);
        Due.is("the hold that was", x.hold(9, 0), 1);
    }

    private static void hundredAtMost() {
        CatchShares x = new CatchShares();
        Due.yes("60", x.owns(0, 1, 60));
        Due.no("41", x.owns(2, 1, 41));
        Due.yes("40", x.owns(2, 1, 40));
        Due.is("hold of the one", x.hold(0, 1), 60 * HUNDREDTH);
        Due.is("hold of the other", x.hold(2, 1), 40 * HUNDREDTH);
        Trial full = new Trial(y -> {
            y.owns(0, 1, 60);
            y.owns(2, 1, 40);
        });
        full.no("a third", y -> y.owns(3, 1, 1));
        full.no("one more of the first", y -> y.owns(0, 1, 61));
        full.no("one more of the second", y -> y.owns(2, 1, 41));
        full.no("all", y -> y.owns(0, 1, 100));
        Due.yes("nothing more", x.owns(3, 1, 0));
        Due.yes("less", x.owns(0, 1, 59));
        Due.no("two for one", x.owns(3, 1, 2));
        Due.yes("one for one", x.owns(3, 1, 1));
        CatchShares y = new CatchShares();
        Due.yes("100 alone", y.owns(0, 1, 100));
        Due.no("and 1", y.owns(2, 1, 1));
    }

    private static void hundredByAll() {
        CatchShares x = new CatchShares();
        for (int owner = 0; owner < 9; owner++) {
            Due.yes("11", x.owns(owner, 9, 11));
        }
        Due.no("13 of the last", x.owns(8, 9, 13));
        Due.yes("12 of the last", x.owns(8, 9, 12));
        Due.no("12 of the first", x.owns(0, 9, 12));
        Due.is("hold of the first", x.hold(0, 9), 11 * HUNDREDTH);
        Due.is("hold of the last", x.hold(8, 9), 12 * HUNDREDTH);
    }

    private static void hundredOfEach() {
        CatchShares x = new CatchShares();
        for (int other = 1; other < 10; other++) {
            Due.yes("100 of each", x.owns(0, other, 100));
        }
        Due.is("of the last", x.hold(0, 9), WHOLE);
    }

    private static void ownsAnew() {
        CatchShares x = new CatchShares();
        Due.yes("60", x.owns(0, 1, 60));
        Due.yes("70 is not 130", x.owns(0, 1, 70));
        Due.is("hold", x.hold(0, 1), 70 * HUNDREDTH);
        Due.yes("100", x.owns(0, 1, 100));
        Due.yes("5", x.owns(0, 1, 5));
        Due.is("hold", x.hold(0, 1), 5 * HUNDREDTH);
    }

    private static void holdOfNone() {
        Trial busy = Trial.busy();
        for (int owner : Trial.noneOf(10)) {
            busy.none("owner " + owner, y -> y.hold(owner, 1));
            busy.none("other " + owner, y -> y.hold(0, owner));
            busy.none("both " + owner, y -> y.hold(owner, owner));
        }
    }

    private static void holdOfHimself() {
        CatchShares x = new CatchShares();
        Due.is("0", x.hold(0, 0), WHOLE);
        Due.is("9", x.hold(9, 9), WHOLE);
        Due.yes("owns", x.owns(0, 9, 100));
        Due.is("0 still", x.hold(0, 0), WHOLE);
        Due.is("9, who is another's", x.hold(9, 9), WHOLE);
    }

    private static void leastAndGreatest() {
        CatchShares x = new CatchShares();
        makeLongest(x);
        Due.is("the least", x.hold(9, 0), 1);
        Due.is("a hundred times the least", x.hold(9, 1), 100);
        for (int i = 9; i > 0; i--) {
            Due.yes("owns", x.owns(i, i - 1, 100));
        }
        Due.is("the greatest", x.hold(9, 0), WHOLE);
    }

    private static void sumOverAllWays() {
        CatchShares x = new CatchShares();
        Due.yes("owns", x.owns(0, 1, 50));
        Due.yes("owns", x.owns(0, 2, 30));
        Due.yes("owns", x.owns(1, 3, 20));
        Due.yes("owns", x.owns(2, 3, 70));
        Due.yes("owns", x.owns(0, 3, 5));
        // 0.05 + 0.5 * 0.2 + 0.3 * 0.7
        Due.is("three ways", x.hold(0, 3), 36 * HUNDREDTH);
        Due.is("from between", x.hold(2, 3), 70 * HUNDREDTH);
        Due.yes("a link to a lesser number", x.owns(9, 0, 50));
        Due.is("from above", x.hold(9, 3), 18 * HUNDREDTH);
        Due.yes("owns", x.owns(1, 3, 0));
        Due.is("one way less", x.hold(0, 3), 26 * HUNDREDTH);
        CatchShares y = new CatchShares();
        for (int between = 1; between < 9; between++) {
            Due.yes("owns", y.owns(0, between, 100));
            Due.yes("owns", y.owns(between, 9, 12));
        }
        Due.yes("and himself", y.owns(0, 9, 4));
        Due.is("all ways come to all", y.hold(0, 9), WHOLE);
    }

    private static void longestWay() {
        CatchShares x = new CatchShares();
        long product = 1;
        for (int i = 9; i > 0; i--) {
            Due.yes("owns", x.owns(i, i - 1, 99));
            product *= 99;
        }
        Due.is("nine links of 99", x.hold(9, 0), product);
        Due.is("eight links of 99", x.hold(9, 1), product / 99 * 100);
        // ways of 1 and of 9 links side by side
        Due.yes("owns", x.owns(9, 0, 1));
        Due.is("the straight way, too", x.hold(9, 0), product + HUNDREDTH);
    }

    private static void holdOfNothing() {
        CatchShares x = new CatchShares();
        Due.is("nobody owns anything", x.hold(4, 5), 0);
        Due.yes("owns", x.owns(4, 5, 50));
        Due.is("not back", x.hold(5, 4), 0);
        Due.yes("owns", x.owns(6, 5, 50));
        Due.is("not across", x.hold(4, 6), 0);
    }
}
