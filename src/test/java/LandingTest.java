/** Promises 9 to 12: land, left, transfer, swap. */
public final class LandingTest {
    public static void main(String[] args) {
        landing();
        landingsAreFull();
        leaving();
        transferring();
        swapping();
        swappingAtTheEdges();
        Due.end();
    }

    private static void landing() {
        CatchShares x = Due.made(2, 100, 100);
        Due.no("9: not parted", x.land(0, 0, 1, 0, 0));
        Due.part(x, 0, 1, 1);
        Due.no("9: stock -1", x.land(-1, 0, 1, 0, 0));
        Due.no("9: stock 2", x.land(2, 0, 1, 0, 0));
        Due.no("9: other stock not parted", x.land(1, 0, 1, 0, 0));
        Due.no("9: holder -1", x.land(0, -1, 1, 0, 0));
        Due.no("9: holder 2", x.land(0, 2, 1, 0, 0));
        Due.no("9: no grams", x.land(0, 0, 0, 0, 0));
        Due.no("9: grams below 0", x.land(0, 0, -1, 0, 0));
        Due.no("9: too many grams", x.land(0, 0, 1000000001L, 0, 0));
        Due.no("9: far too many grams", x.land(0, 0, Long.MAX_VALUE, 0, 0));
        Due.no("9: day -1", x.land(0, 0, 1, -1, 0));
        Due.no("9: day 100000", x.land(0, 0, 1, 100000, 100000));
        Due.no("9: told -1", x.land(0, 0, 1, -1, -1));
        Due.no("9: told 100000", x.land(0, 0, 1, 5, 100000));
        Due.no("9: told before", x.land(0, 0, 1, 5, 4));
        Due.is("9: nothing landed", x.told(0, 4), 0);
        Due.is("9: all left", x.left(0, 0, 99999), 50);
        Due.yes("9: least", x.land(0, 0, 1, 0, 0));
        Due.yes("9: greatest", x.land(0, 0, 1000000000L, 99999, 99999));
        Due.yes("9: told the same day", x.land(0, 1, 7, 5, 5));
        Due.yes("9: told much later", x.land(0, 1, 8, 0, 99999));
        Due.is("9: landed", x.told(0, 4), 1000000016L);
    }

    private static void landingsAreFull() {
        CatchShares x = Due.made(2, 100, 100);
        Due.part(x, 0, 1, 1);
        Due.part(x, 1, 1, 1);
        for (int i = 0; i < 200; i++) {
            Due.yes("9: landing " + i, x.land(i % 2, i / 2 % 2, 1000000000L, i, i));
        }
        Due.no("9: landing 200", x.land(0, 0, 1, 0, 0));
        Due.no("9: landing 200 of the other", x.land(1, 1, 1, 0, 0));
        Due.is("9: all of 0", x.told(0, 4), 100000000000L);
        Due.is("9: left", x.left(0, 0, 99999), 50 - 50000000000L);
        Due.is("9: left on day 3", x.left(1, 1, 3), 50 - 1000000000L);
    }

    private static void leaving() {
        CatchShares x = Due.made(2, 100, 100);
        Due.is("10: not parted", x.left(0, 0, 5), 0);
        Due.part(x, 0, 3, 1);
        Due.part(x, 1, 1, 1);
        Due.yes("10: land", x.land(0, 0, 10, 3, 8));
        Due.yes("10: land", x.land(0, 0, 5, 4, 6));
        Due.yes("10: land", x.land(0, 0, 70, 9, 9));
        Due.is("10: stock -1", x.left(-1, 0, 0), -1);
        Due.is("10: stock 2", x.left(2, 0, 0), -1);
        Due.is("10: holder -1", x.left(0, -1, 0), -1);
        Due.is("10: holder 2", x.left(0, 2, 0), -1);
        Due.is("10: on 5", x.left(0, 0, 5), 75);
        Due.is("10: on 6", x.left(0, 0, 6), 70);
        Due.is("10: on 7", x.left(0, 0, 7), 70);
        Due.is("10: on 8", x.left(0, 0, 8), 60);
        Due.is("10: on 9", x.left(0, 0, 9), -10);
        Due.is("10: on the least day", x.left(0, 0, Integer.MIN_VALUE), 75);
        Due.is("10: on the last day", x.left(0, 0, Integer.MAX_VALUE), -10);
        Due.is("10: other holder", x.left(0, 1, 9), 25);
        Due.is("10: other stock", x.left(1, 0, 9), 50);
        Due.is("10: transfer", x.transfer(0, 1, 0, 9), 0);
        Due.is("10: the share as it is now", x.left(0, 0, 5), 84);
        Due.is("10: -1 may be left", x.left(0, 0, 9), -1);
    }

    private static void transferring() {
        CatchShares x = Due.made(3, 100, 100);
        Due.is("11: not parted", x.transfer(0, 0, 1, 1), -1);
        Due.part(x, 0, 5, 3, 2);
        Due.is("11: stock -1", x.transfer(-1, 0, 1, 1), -1);
        Due.is("11: stock 2", x.transfer(2, 0, 1, 1), -1);
        Due.is("11: a is -1", x.transfer(0, -1, 1, 1), -1);
        Due.is("11: a is 3", x.transfer(0, 3, 1, 1), -1);
        Due.is("11: b is -1", x.transfer(0, 0, -1, 1), -1);
        Due.is("11: b is 3", x.transfer(0, 0, 3, 1), -1);
        Due.is("11: both are one", x.transfer(0, 1, 1, 1), -1);
        Due.is("11: both are one, too much", x.transfer(0, 1, 1, 1000), -1);
        Due.is("11: no grams", x.transfer(0, 0, 1, 0), -1);
        Due.is("11: grams below 0", x.transfer(0, 0, 1, -5), -1);
        Due.is("11: too many grams", x.transfer(0, 0, 1, 1000000001L), -1);
        Due.is("11: as many as may be", x.transfer(0, 0, 1, 1000000000L), 1);
        Due.is("11: less left", x.transfer(0, 0, 1, 51), 1);
        Due.shares("11: nothing changed", x, 0, 50, 30, 20);
        Due.is("11: all", x.transfer(0, 0, 1, 50), 0);
        Due.shares("11", x, 0, 0, 80, 20);
        // told on the last day, it counts already
        Due.yes("11: land", x.land(0, 1, 70, 0, 99999));
        Due.is("11: landed is not left", x.transfer(0, 1, 2, 11), 1);
        Due.is("11: the rest", x.transfer(0, 1, 2, 10), 0);
        Due.shares("11: the rest", x, 0, 0, 70, 30);
        Due.yes("11: land over", x.land(0, 1, 5, 1, 1));
        Due.is("11: below 0", x.transfer(0, 1, 2, 1), 1);
        Due.is("11: to one that is over", x.transfer(0, 2, 1, 5), 0);
        Due.is("11: left of it", x.left(0, 1, 99999), 0);
        Due.yes("11: sums", x.sums(0));
    }

    private static void swapping() {
        CatchShares x = Due.made(2, 100, 100, 100);
        Due.part(x, 0, 1, 1);
        Due.is("12: the other not parted", x.swap(0, 1, 1, 1, 0, 1), -1);
        Due.is("12: the one not parted", x.swap(1, 0, 1, 1, 0, 1), -1);
        Due.part(x, 1, 1, 1);
        Due.is("12: stock -1", x.swap(-1, 1, 1, 1, 0, 1), -1);
        Due.is("12: stock 3", x.swap(3, 1, 1, 1, 0, 1), -1);
        Due.is("12: other -1", x.swap(0, -1, 1, 1, 0, 1), -1);
        Due.is("12: other 3", x.swap(0, 3, 1, 1, 0, 1), -1);
        Due.is("12: both are one", x.swap(0, 0, 1, 1, 0, 1), -1);
        Due.is("12: holder -1", x.swap(0, 1, 1, 1, -1, 1), -1);
        Due.is("12: holder 2", x.swap(0, 1, 1, 1, 2, 1), -1);
        Due.is("12: above 0", x.swap(0, 1, 0, 1, 0, 1), -1);
        Due.is("12: above 1001", x.swap(0, 1, 1001, 1, 0, 1), -1);
        Due.is("12: below 0", x.swap(0, 1, 1, 0, 0, 1), -1);
        Due.is("12: below 1001", x.swap(0, 1, 1, 1001, 0, 1), -1);
        Due.is("12: no grams", x.swap(0, 1, 1, 1, 0, 0), -1);
        Due.is("12: too many grams", x.swap(0, 1, 1, 1, 0, 1000000001L), -1);
        Due.is("12: as many as may be", x.swap(0, 1, 1, 1, 0, 1000000000L), 1);
        Due.is("12: less left before no whole number", x.swap(0, 1, 1, 2, 0, 51), 1);
        Due.is("12: no whole number", x.swap(0, 1, 3, 2, 0, 5), 2);
        Due.is("12: below 1", x.swap(0, 1, 1, 1000, 0, 50), 2);
        Due.shares("12: nothing changed", x, 0, 50, 50);
        Due.shares("12: nothing changed", x, 1, 50, 50);
        Due.is("12: 3 / 2", x.swap(0, 1, 3, 2, 0, 6), 0);
        Due.shares("12: 3 / 2", x, 0, 44, 50);
        Due.shares("12: 3 / 2", x, 1, 59, 50);
        Due.yes("12: land", x.land(0, 0, 40, 0, 99999));
        Due.is("12: landed is not left", x.swap(0, 1, 1, 1, 0, 5), 1);
        Due.is("12: all that is left", x.swap(0, 1, 1, 4, 0, 4), 0);
        Due.shares("12: all that is left", x, 0, 40, 50);
        Due.shares("12: all that is left", x, 1, 60, 50);
        Due.is("12: back", x.swap(1, 0, 1000, 1, 1, 50), 0);
        Due.shares("12: back", x, 0, 40, 50050);
        Due.shares("12: back", x, 1, 60, 0);
    }

    private static void swappingAtTheEdges() {
        CatchShares x = Due.made(2, 1000000000L, 1000000000L);
        Due.part(x, 0, 1, 0);
        Due.part(x, 1, 0, 1);
        Due.is("12: 2000000001 in all", x.swap(0, 1, 1000, 1, 0, 1000001), 2);
        Due.is("12: far too much", x.swap(0, 1, 1000, 1, 0, 1000000000L), 2);
        Due.is("12: 1999999999 in all", x.swap(0, 1, 999, 1, 0, 1001001), 0);
        Due.is("12: all of it", x.told(1, 3), 1999999999L);
        Due.is("12: one more", x.swap(0, 1, 1, 1, 0, 1), 0);
        Due.is("12: 2000000000 in all", x.told(1, 3), 2000000000L);
        Due.is("12: and one too much", x.swap(0, 1, 1, 1, 0, 1), 2);
        Due.is("12: given", x.given(1, 0), 1000000000L);
        Due.is("12: left of the other", x.given(0, 0), 1000000000L - 1001001 - 1);
        Due.yes("12: sums", x.sums(0));
        Due.yes("12: sums", x.sums(1));
    }
}
