/** Promises 26 and 27: told, sums. */
public final class TellTest {
    public static void main(String[] args) {
        telling();
        summing();
        summingWithDebts();
        Due.end();
    }

    private static void tells(String run, CatchShares x, int stock, long... want) {
        for (int what = 0; what < want.length; what++) {
            Due.is(run + ": told(" + stock + ", " + what + ")", x.told(stock, what), want[what]);
        }
    }

    private static void telling() {
        CatchShares x = Due.made(2, 100, 60, 0);
        tells("26: new", x, 0, 100, 0, 0, 0, 0, 100, -1);
        Due.is("26: what 7", x.told(0, 7), -1);
        Due.is("26: what -1", x.told(0, -1), -1);
        Due.is("26: stock -1", x.told(-1, 0), -1);
        Due.is("26: stock 3", x.told(3, 0), -1);
        Due.yes("26: aside", x.aside(0, 20));
        Due.yes("26: cap", x.cap(0, 33));
        Due.yes("26: weight", x.weight(0, 0, 3));
        tells("26: not parted", x, 0, 100, 20, 0, 0, 0, 33, -1);
        Due.part(x, 0, 3, 1);
        Due.yes("26: land", x.land(0, 0, 7, 1, 99999));
        Due.yes("26: land", x.land(0, 1, 8, 1, 1));
        tells("26: parted", x, 0, 100, 20, 1, 80, 15, 33, -1);
        Due.yes("26: follows", x.follows(1, 0));
        tells("26: following", x, 1, 60, 0, 0, 0, 0, 100, 0);
        Due.part(x, 1, 1, 1);
        tells("26: followed", x, 1, 60, 0, 1, 68, 0, 100, 0);
        tells("26: the one before", x, 0, 100, 20, 1, 80, 15, 33, -1);
    }

    private static void summing() {
        CatchShares x = Due.made(3, 100, 101, 50);
        Due.no("27: stock -1", x.sums(-1));
        Due.no("27: stock 3", x.sums(3));
        Due.no("27: not parted", x.sums(0));
        Due.yes("27: aside", x.aside(0, 1));
        Due.part(x, 0, 1, 1, 1);
        Due.yes("27: parted", x.sums(0));
        Due.no("27: the other is not", x.sums(1));
        Due.part(x, 1, 1, 2, 4);
        Due.yes("27: parted", x.sums(1));
        Due.is("27: transfer", x.transfer(0, 0, 1, 10), 0);
        Due.yes("27: transferred", x.sums(0));
        Due.is("27: swap", x.swap(0, 1, 5, 2, 2, 20), 0);
        Due.yes("27: swapped from", x.sums(0));
        Due.yes("27: swapped to", x.sums(1));
        Due.is("27: refused", x.swap(0, 1, 1, 2, 2, 1), 2);
        Due.yes("27: refused from", x.sums(0));
        Due.yes("27: refused to", x.sums(1));
        Due.yes("27: land", x.land(0, 0, 1000, 1, 1));
        Due.yes("27: landed", x.sums(0));
    }

    private static void summingWithDebts() {
        CatchShares x = Due.made(3, 90, 30, 30);
        Due.part(x, 0, 1, 1, 1);
        Due.yes("27: land", x.land(0, 0, 100, 1, 1));
        Due.yes("27: land", x.land(0, 1, 35, 1, 1));
        Due.yes("27: follows", x.follows(1, 0));
        Due.part(x, 1, 1, 1, 1);
        Due.shares("27: debts", x, 1, 0, 5, 13);
        Due.is("27: shares", x.told(1, 3), 18);
        Due.yes("27: carried", x.sums(1));
        Due.is("27: swap", x.swap(1, 0, 2, 1, 2, 4), 0);
        Due.yes("27: carried and swapped", x.sums(1));
        Due.yes("27: swapped to", x.sums(0));
    }
}
