/** Promises 18 to 21: owns, hold, cap, capped. */
public final class OwnerTest {
    private static final long WHOLE = 1000000000000000000L;

    public static void main(String[] args) {
        owning();
        circles();
        holding();
        longestWay();
        caps();
        capping();
        cappingToTheLastPart();
        cappingByTheLeastHold();
        cappingByLowerDigits();
        cappingAtTheLimits();
        Due.end();
    }

    private static void owning() {
        CatchShares x = new CatchShares();
        Due.no("18: owner -1", x.owns(-1, 1, 1));
        Due.no("18: owner 10", x.owns(10, 1, 1));
        Due.no("18: other -1", x.owns(0, -1, 1));
        Due.no("18: other 10", x.owns(0, 10, 1));
        Due.no("18: -1", x.owns(0, 1, -1));
        Due.no("18: 101", x.owns(0, 1, 101));
        Due.no("18: of itself", x.owns(3, 3, 1));
        Due.yes("18: nothing of itself", x.owns(3, 3, 0));
        Due.yes("18: 100", x.owns(0, 1, 100));
        Due.no("18: more than all", x.owns(2, 1, 1));
        Due.yes("18: nothing more", x.owns(2, 1, 0));
        Due.yes("18: set anew, not added", x.owns(0, 1, 60));
        Due.no("18: 101 in all", x.owns(2, 1, 41));
        Due.yes("18: 100 in all", x.owns(2, 1, 40));
        Due.no("18: 101 in all by the first", x.owns(0, 1, 61));
        Due.yes("18: less by the first", x.owns(0, 1, 10));
        Due.yes("18: up again", x.owns(0, 1, 60));
        Due.is("18: hold", x.hold(0, 1), WHOLE / 100 * 60);
        Due.is("18: hold of the other", x.hold(2, 1), WHOLE / 100 * 40);
        // the parts that an owner has are not bound together
        Due.yes("18: 100 of a second", x.owns(0, 3, 100));
        Due.yes("18: 100 of a third", x.owns(0, 9, 100));
        Due.yes("18: the last owner", x.owns(9, 8, 100));
    }

    private static void circles() {
        CatchShares x = new CatchShares();
        Due.yes("18: 0 of 1", x.owns(0, 1, 1));
        Due.no("18: 1 of 0", x.owns(1, 0, 1));
        Due.yes("18: nothing of 0", x.owns(1, 0, 0));
        Due.yes("18: 1 of 2", x.owns(1, 2, 1));
        Due.no("18: 2 of 0", x.owns(2, 0, 100));
        Due.yes("18: 0 of 2, too", x.owns(0, 2, 1));
        for (int i = 2; i < 9; i++) {
            Due.yes("18: " + i + " of the next", x.owns(i, i + 1, 1));
        }
        Due.no("18: 9 of 0", x.owns(9, 0, 1));
        Due.no("18: 9 of 5", x.owns(9, 5, 1));
        Due.is("19: refused changes nothing", x.hold(9, 0), 0);
        Due.yes("18: 4 no more of 5", x.owns(4, 5, 0));
        Due.yes("18: now 9 of 0", x.owns(9, 0, 1));
        Due.no("18: now not 4 of 5", x.owns(4, 5, 1));
    }

    private static void holding() {
        CatchShares x = new CatchShares();
        Due.is("19: owner -1", x.hold(-1, 0), -1);
        Due.is("19: owner 10", x.hold(10, 0), -1);
        Due.is("19: other -1", x.hold(0, -1), -1);
        Due.is("19: other 10", x.hold(0, 10), -1);
        Due.is("19: of himself", x.hold(4, 4), WHOLE);
        Due.is("19: of another", x.hold(4, 5), 0);
        Due.yes("19: owns", x.owns(0, 1, 50));
        Due.yes("19: owns", x.owns(0, 2, 30));
        Due.yes("19: owns", x.owns(1, 3, 20));
        Due.yes("19: owns", x.owns(2, 3, 70));
        Due.yes("19: owns", x.owns(0, 3, 5));
        // 0.05 + 0.5 * 0.2 + 0.3 * 0.7
        Due.is("19: over all ways", x.hold(0, 3), WHOLE / 100 * 36);
        Due.is("19: from between", x.hold(2, 3), WHOLE / 100 * 70);
        Due.is("19: not back", x.hold(3, 0), 0);
        // a link to a lesser number, too
        Due.yes("19: owns", x.owns(9, 0, 50));
        Due.is("19: from above", x.hold(9, 3), WHOLE / 100 * 18);
        Due.yes("19: owns", x.owns(1, 3, 0));
        Due.is("19: one way less", x.hold(0, 3), WHOLE / 100 * 26);
        Due.is("19: of himself still", x.hold(0, 0), WHOLE);
    }

    private static void longestWay() {
        CatchShares x = new CatchShares();
        long product = 1;
        for (int i = 9; i > 0; i--) {
            Due.yes("19: owns", x.owns(i, i - 1, 99));
            product *= 99;
        }
        Due.is("19: nine links of 99", x.hold(9, 0), product);
        for (int i = 9; i > 0; i--) {
            Due.yes("19: owns", x.owns(i, i - 1, 1));
        }
        Due.is("19: nine links of 1", x.hold(9, 0), 1);
        Due.is("19: eight links of 1", x.hold(9, 1), 100);
        Due.no("18: a circle through the least hold", x.owns(0, 9, 1));
        for (int i = 9; i > 0; i--) {
            Due.yes("19: owns", x.owns(i, i - 1, 100));
        }
        Due.is("19: nine links of 100", x.hold(9, 0), WHOLE);
    }

    private static void caps() {
        CatchShares x = Due.made(1, 100);
        Due.no("20: stock -1", x.cap(-1, 5));
        Due.no("20: stock 1", x.cap(1, 5));
        Due.no("20: -1", x.cap(0, -1));
        Due.no("20: 101", x.cap(0, 101));
        Due.is("20: 100 at first", x.told(0, 5), 100);
        Due.yes("20: 0", x.cap(0, 0));
        Due.is("20: told", x.told(0, 5), 0);
        Due.yes("20: 100", x.cap(0, 100));
        Due.part(x, 0, 1);
        Due.yes("20: parted", x.cap(0, 55));
        Due.no("20: refused", x.cap(0, 101));
        Due.is("20: told anew", x.told(0, 5), 55);
    }

    private static void capping() {
        CatchShares x = Due.made(4, 100, 100);
        Due.yes("21: cap 0", x.cap(0, 0));
        Due.no("21: no weights", x.capped(0));
        Due.yes("21: weight", x.weight(0, 0, 1));
        Due.yes("21: above 0", x.capped(0));
        Due.no("21: nothing is not above 0", x.capped(1));
        Due.no("21: owner -1", x.capped(-1));
        Due.no("21: owner 10", x.capped(10));
        Due.yes("21: weight", x.weight(0, 0, 30));
        Due.yes("21: weight", x.weight(0, 1, 50));
        Due.yes("21: weight", x.weight(0, 2, 20));
        Due.yes("21: cap 50", x.cap(0, 50));
        Due.no("21: 50 of 50", x.capped(1));
        Due.yes("21: cap 49", x.cap(0, 49));
        Due.yes("21: 50 of 49", x.capped(1));
        Due.no("21: 30 of 49", x.capped(0));
        Due.yes("21: owns", x.owns(0, 1, 38));
        Due.no("21: 30 and 19", x.capped(0));
        Due.yes("21: owns", x.owns(0, 2, 1));
        Due.yes("21: 30 and 19 and 0.2", x.capped(0));
        Due.yes("21: what others have of him is his, too", x.capped(1));
        Due.yes("21: cap 100", x.cap(0, 100));
        Due.no("21: none", x.capped(1));
        // the second stock, not parted, counts alone
        Due.yes("21: cap", x.cap(1, 10));
        Due.yes("21: weight", x.weight(1, 3, 1));
        Due.yes("21: in the second stock", x.capped(3));
        Due.no("21: not in it", x.capped(1));
        Due.is("21: a second holder of owner 3", x.holder(3), 4);
        Due.yes("21: weight", x.weight(0, 4, 100));
        Due.yes("21: cap", x.cap(0, 49));
        Due.yes("21: cap", x.cap(1, 100));
        Due.yes("21: by the second holder", x.capped(3));
    }

    private static void cappingToTheLastPart() {
        CatchShares x = new CatchShares();
        x.stock(1);
        // holder 0 of owner 0, holder 1 of owner 9, holder 2 of nobody's
        x.holder(0);
        x.holder(9);
        x.holder(8);
        x.weight(0, 0, 500000);
        x.weight(0, 1, 1);
        x.weight(0, 2, 499999);
        for (int i = 0; i < 7; i++) {
            Due.yes("21: owns", x.owns(i, i + 1, 1));
        }
        Due.yes("21: cap", x.cap(0, 50));
        Due.no("21: exactly half", x.capped(0));
        Due.yes("21: owns", x.owns(7, 9, 1));
        Due.is("21: the hold", x.hold(0, 9), 100);
        Due.yes("21: half and a hundredth to the 8th of a millionth", x.capped(0));
    }

    private static void cappingByTheLeastHold() {
        CatchShares x = new CatchShares();
        x.stock(1);
        x.holder(0);
        x.holder(9);
        x.weight(0, 0, 99);
        x.weight(0, 1, 1);
        Due.yes("21: cap", x.cap(0, 99));
        Due.no("21: 99 of 99", x.capped(0));
        for (int i = 0; i < 9; i++) {
            Due.yes("21: owns", x.owns(i, i + 1, 1));
        }
        Due.is("21: the least hold", x.hold(0, 9), 1);
        Due.yes("21: 99 and the least hold", x.capped(0));
    }

    private static void cappingByLowerDigits() {
        CatchShares x = new CatchShares();
        x.stock(1);
        // nine holders in whom owner 0 has 0.05 to the 5th, in all 2.8125 of the weights
        for (int i = 0; i < 9; i++) {
            x.holder(5);
            x.weight(0, i, 1000000);
        }
        for (int i = 0; i < 5; i++) {
            Due.yes("21: owns", x.owns(i, i + 1, 5));
        }
        x.holder(0);
        x.holder(9);
        x.weight(0, 9, 91000);
        Due.yes("21: cap", x.cap(0, 1));
        Due.yes("21: weight", x.weight(0, 10, 9281));
        Due.yes("21: 91002.8125 of 91002.81", x.capped(0));
        Due.yes("21: weight", x.weight(0, 10, 9282));
        Due.no("21: 91002.8125 of 91002.82", x.capped(0));
        CatchShares y = new CatchShares();
        y.stock(1);
        for (int i = 0; i < 5; i++) {
            Due.yes("21: owns", y.owns(i, i + 1, 5));
        }
        y.holder(5);
        y.holder(0);
        y.holder(9);
        y.weight(0, 0, 320000);
        y.weight(0, 1, 40000);
        y.weight(0, 2, 40001);
        Due.yes("21: cap", y.cap(0, 10));
        Due.no("21: 40000.1 of 40000.1", y.capped(0));
        Due.yes("21: weight", y.weight(0, 2, 40000));
        Due.yes("21: 40000.1 of 40000", y.capped(0));
    }

    private static void cappingAtTheLimits() {
        CatchShares x = new CatchShares();
        x.stock(1);
        for (int i = 0; i < 12; i++) {
            x.holder(5);
            x.weight(0, i, 1000000);
        }
        Due.no("21: all of all", x.capped(5));
        Due.yes("21: cap", x.cap(0, 99));
        Due.yes("21: all of 99", x.capped(5));
        Due.yes("21: owns", x.owns(4, 5, 99));
        Due.no("21: 99 of 99", x.capped(4));
        Due.yes("21: cap", x.cap(0, 98));
        Due.yes("21: 99 of 98", x.capped(4));
        Due.yes("21: owns", x.owns(3, 4, 99));
        Due.yes("21: 98.01 of 98", x.capped(3));
        Due.yes("21: owns", x.owns(2, 3, 99));
        Due.no("21: 97.0299 of 98", x.capped(2));
    }
}
