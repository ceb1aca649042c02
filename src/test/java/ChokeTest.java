/** Promises 22 and 23: choke, closes. */
public final class ChokeTest {
    public static void main(String[] args) {
        choking();
        chokingByFractions();
        chokingFarOver();
        closing();
        Due.end();
    }

    private static void choking() {
        CatchShares x = Due.made(2, 100, 200, 300, 400);
        Due.is("22: holder -1", x.choke(-1), -1);
        Due.is("22: holder 2", x.choke(2), -1);
        Due.is("22: nothing parted", x.choke(0), -1);
        Due.part(x, 0, 1, 0);
        Due.is("22: no share", x.choke(1), -1);
        Due.is("22: one", x.choke(0), 0);
        Due.part(x, 1, 1, 1);
        Due.part(x, 2, 1, 1);
        Due.is("22: the same of all", x.choke(0), 0);
        Due.is("22: without the first", x.choke(1), 1);
        Due.yes("22: land", x.land(2, 0, 3, 1, 99999));
        Due.is("22: the least", x.choke(0), 2);
        Due.yes("22: land", x.land(1, 0, 2, 1, 1));
        Due.is("22: the same of two", x.choke(0), 1);
        Due.yes("22: land", x.land(0, 0, 2, 1, 1));
        Due.is("22: the same of three", x.choke(0), 0);
        Due.yes("22: land", x.land(2, 0, 1, 1, 1));
        Due.is("22: again the last", x.choke(0), 2);
        Due.is("22: the other holder", x.choke(1), 1);
        Due.is("22: transfer of all", x.transfer(1, 1, 0, 100), 0);
        Due.is("22: a share of 0 is out", x.choke(1), 2);
        Due.is("22: transfer of all", x.transfer(2, 1, 0, 150), 0);
        Due.is("22: none left", x.choke(1), -1);
    }

    private static void chokingByFractions() {
        CatchShares x = Due.made(1, 1000000000L, 999999999L, 3);
        Due.part(x, 0, 1);
        Due.part(x, 1, 1);
        // left 999999999 / 1000000000 and 999999998 / 999999999
        Due.yes("22: land", x.land(0, 0, 1, 1, 1));
        Due.yes("22: land", x.land(1, 0, 1, 1, 1));
        Due.is("22: by a hair", x.choke(0), 1);
        Due.yes("22: land", x.land(0, 0, 1, 1, 1));
        Due.is("22: by a hair more", x.choke(0), 0);
        Due.part(x, 2, 1);
        Due.yes("22: land", x.land(2, 0, 3, 1, 1));
        Due.is("22: nothing left", x.choke(0), 2);
        Due.yes("22: land", x.land(0, 0, 1000000000L, 1, 1));
        Due.is("22: below nothing", x.choke(0), 0);
    }

    private static void chokingFarOver() {
        CatchShares x = Due.made(1, 1000000000L, 999999999L, 1);
        Due.part(x, 0, 1);
        Due.part(x, 1, 1);
        for (int i = 0; i < 60; i++) {
            Due.yes("22: land", x.land(0, 0, 1000000000L, 1, 1));
            Due.yes("22: land", x.land(1, 0, 1000000000L, 1, 1));
        }
        Due.is("22: far over", x.choke(0), 1);
        Due.yes("22: land", x.land(0, 0, 60, 1, 1));
        Due.is("22: not quite as far", x.choke(0), 1);
        Due.yes("22: land", x.land(0, 0, 1, 1, 1));
        Due.is("22: farther", x.choke(0), 0);
        Due.part(x, 2, 1);
        Due.yes("22: land", x.land(2, 0, 60, 1, 1));
        Due.is("22: 59 times over, of a small share", x.choke(0), 0);
        Due.yes("22: land", x.land(2, 0, 1, 1, 1));
        Due.is("22: 60 times over", x.choke(0), 2);
    }

    private static void closing() {
        CatchShares x = Due.made(3, 100, 100, 1000000000L);
        Due.is("23: not parted", x.closes(0, 1), -1);
        Due.part(x, 0, 5, 3, 2);
        Due.is("23: stock -1", x.closes(-1, 1), -1);
        Due.is("23: stock 3", x.closes(3, 1), -1);
        Due.is("23: rate 0", x.closes(0, 0), -1);
        Due.is("23: rate -1", x.closes(0, -1), -1);
        Due.is("23: rate 1000000001", x.closes(0, 1000000001L), -1);
        Due.is("23: rate Long.MAX_VALUE", x.closes(0, Long.MAX_VALUE), -1);
        Due.is("23: rate 1", x.closes(0, 1), 100);
        Due.is("23: rate 50", x.closes(0, 50), 2);
        Due.is("23: rate 49", x.closes(0, 49), 3);
        Due.is("23: rate 99", x.closes(0, 99), 2);
        Due.is("23: rate 100", x.closes(0, 100), 1);
        Due.is("23: rate 1000000000", x.closes(0, 1000000000L), 1);
        Due.yes("23: land", x.land(0, 0, 60, 1, 99999));
        Due.is("23: what is over is not taken off", x.closes(0, 10), 5);
        Due.yes("23: land", x.land(0, 1, 30, 1, 1));
        Due.is("23: one has some left", x.closes(0, 10), 2);
        Due.yes("23: land", x.land(0, 2, 20, 1, 1));
        Due.is("23: nothing left", x.closes(0, 10), 0);
        Due.part(x, 2, 1, 1, 1);
        Due.is("23: great", x.closes(2, 3), 333333334);
        CatchShares y = Due.made(12, 1200);
        Due.part(y, 0, 1, 1, 1, 1, 1, 1, 1, 1, 1, 1, 1, 1);
        Due.is("23: all holders", y.closes(0, 1), 1200);
    }
}
