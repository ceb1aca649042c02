/** Promises 13 to 15: over, carried, penalty. */
public final class CarryTest {
    public static void main(String[] args) {
        beingOver();
        carrying();
        penalties();
        Due.end();
    }

    private static void beingOver() {
        CatchShares x = Due.made(2, 100);
        Due.is("13: stock -1", x.over(-1, 0), -1);
        Due.is("13: stock 1", x.over(1, 0), -1);
        Due.is("13: holder -1", x.over(0, -1), -1);
        Due.is("13: holder 2", x.over(0, 2), -1);
        Due.is("13: not parted", x.over(0, 0), 0);
        Due.part(x, 0, 1, 1);
        Due.is("13: nothing landed", x.over(0, 0), 0);
        Due.yes("13: land", x.land(0, 0, 50, 1, 1));
        Due.is("13: nothing left", x.over(0, 0), 0);
        Due.yes("13: land", x.land(0, 0, 1, 1, 99999));
        Due.is("13: one over", x.over(0, 0), 1);
        Due.yes("13: land", x.land(0, 0, 1000000000L, 1, 2));
        Due.is("13: much over", x.over(0, 0), 1000000001L);
        Due.is("13: other holder", x.over(0, 1), 0);
        Due.is("13: transfer", x.transfer(0, 1, 0, 50), 0);
        Due.is("13: less over", x.over(0, 0), 999999951L);
    }

    private static void carrying() {
        CatchShares x = Due.made(3, 299, 100);
        Due.is("14: stock -1", x.carried(-1, 0), -1);
        Due.is("14: stock 2", x.carried(2, 0), -1);
        Due.is("14: holder -1", x.carried(0, -1), -1);
        Due.is("14: holder 3", x.carried(0, 3), -1);
        Due.is("14: not parted", x.carried(0, 0), 0);
        Due.part(x, 0, 1, 1, 1);
        Due.shares("14", x, 0, 100, 100, 99);
        Due.is("14: a tenth", x.carried(0, 0), 10);
        Due.is("14: a tenth rounded down", x.carried(0, 2), 9);
        Due.yes("14: land", x.land(0, 0, 89, 1, 1));
        Due.is("14: 11 left", x.carried(0, 0), 10);
        Due.yes("14: land", x.land(0, 0, 1, 1, 1));
        Due.is("14: 10 left", x.carried(0, 0), 10);
        Due.yes("14: land", x.land(0, 0, 1, 1, 99999));
        Due.is("14: 9 left", x.carried(0, 0), 9);
        Due.yes("14: land", x.land(0, 0, 9, 1, 1));
        Due.is("14: 0 left", x.carried(0, 0), 0);
        Due.yes("14: land", x.land(0, 0, 1, 1, 1));
        Due.is("14: 1 over", x.carried(0, 0), -1);
        Due.yes("14: land", x.land(0, 0, 9, 1, 1));
        Due.is("14: 10 over", x.carried(0, 0), -10);
        Due.is("14: transfer", x.transfer(0, 2, 1, 90), 0);
        Due.is("14: of the share as it is now", x.carried(0, 1), 19);
        Due.is("14: of a small share", x.carried(0, 2), 0);
    }

    private static void penalties() {
        CatchShares x = Due.made(2, 10, 10, 1000);
        Due.part(x, 0, 1, 1);
        Due.part(x, 1, 1, 1);
        Due.yes("15: land", x.land(0, 0, 12, 1, 1));
        Due.yes("15: land", x.land(1, 1, 15, 1, 1));
        Due.no("15: above 0", x.penalty(0, 1));
        Due.no("15: above 1001", x.penalty(1001, 1));
        Due.no("15: below 0", x.penalty(1, 0));
        Due.no("15: below 1001", x.penalty(1, 1001));
        Due.no("15: below -1", x.penalty(1, -1));
        Due.is("15: one at first", x.carried(0, 0), -7);
        Due.yes("15: 3 / 2", x.penalty(3, 2));
        Due.is("15: 10.5", x.carried(0, 0), -11);
        Due.is("15: of all stocks", x.carried(1, 1), -15);
        Due.no("15: refused", x.penalty(5, 0));
        Due.no("15: refused", x.penalty(0, 5));
        Due.is("15: as before", x.carried(0, 0), -11);
        Due.yes("15: 1 / 1000", x.penalty(1, 1000));
        Due.is("15: rounded up in size", x.carried(0, 0), -1);
        Due.is("15: not of what is left", x.carried(0, 1), 0);
        Due.yes("15: 1 / 7", x.penalty(1, 7));
        Due.is("15: a whole number", x.carried(0, 0), -1);
        Due.is("15: 10 / 7", x.carried(1, 1), -2);
        Due.yes("15: land", x.land(1, 0, 6, 1, 1));
        Due.yes("15: 3 / 1", x.penalty(3, 1));
        Due.is("15: one over", x.carried(1, 0), -3);
        Due.yes("15: 1000 / 1", x.penalty(1000, 1));
        Due.is("15: a thousand times", x.carried(0, 0), -7000);
        for (int i = 0; i < 197; i++) {
            Due.yes("15: land", x.land(0, 0, 1000000000L, i, i));
        }
        Due.is("15: the most", x.carried(0, 0), -197000000007000L);
        Due.yes("15: 1000 / 999", x.penalty(1000, 999));
        Due.is("15: the most of a part", x.carried(0, 0), -197197197205L);
    }
}
