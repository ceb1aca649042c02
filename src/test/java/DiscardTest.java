/** Promises 24 and 25: seen, discard. */
public final class DiscardTest {
    public static void main(String[] args) {
        seeing();
        discarding();
        discardingTheMost();
        Due.end();
    }

    private static void seeing() {
        CatchShares x = Due.made(1, 1000, 1000);
        Due.part(x, 0, 1);
        Due.yes("24: land", x.land(0, 0, 1000000, 1, 1));
        Due.no("24: stock -1", x.seen(-1, 1, 1));
        Due.no("24: stock 2", x.seen(2, 1, 1));
        Due.no("24: kept -1", x.seen(0, -1, 1));
        Due.no("24: thrown -1", x.seen(0, 1, -1));
        Due.no("24: kept 1000001", x.seen(0, 1000001, 1));
        Due.no("24: thrown 1000001", x.seen(0, 1, 1000001));
        Due.no("24: kept Long.MAX_VALUE", x.seen(0, Long.MAX_VALUE, 1));
        Due.no("24: thrown Long.MIN_VALUE", x.seen(0, 1, Long.MIN_VALUE));
        Due.is("25: nothing seen", x.discard(0), -1);
        Due.yes("24: nothing", x.seen(0, 0, 0));
        Due.is("25: nothing kept", x.discard(0), -1);
        Due.yes("24: thrown back alone", x.seen(0, 0, 1000000));
        Due.is("25: nothing kept still", x.discard(0), -1);
        Due.no("24: one more thrown back", x.seen(0, 5, 1));
        Due.is("24: and nothing kept by that", x.discard(0), -1);
        Due.yes("24: kept", x.seen(0, 1000000, 0));
        Due.is("25: as much", x.discard(0), 1000000);
        Due.no("24: one more kept", x.seen(0, 1, 0));
        Due.yes("24: nothing more", x.seen(0, 0, 0));
        Due.yes("24: not parted", x.seen(1, 1, 1));
        Due.is("25: nothing landed", x.discard(1), 0);
        Due.yes("24: up to the most", x.seen(1, 999999, 999998));
        Due.no("24: thrown back is kept apart", x.seen(1, 1, 0));
        Due.yes("24: the last one", x.seen(1, 0, 1));
        Due.no("24: one too much", x.seen(1, 0, 1));
    }

    private static void discarding() {
        CatchShares x = Due.made(2, 1000, 1000);
        Due.is("25: stock -1", x.discard(-1), -1);
        Due.is("25: stock 2", x.discard(2), -1);
        Due.part(x, 0, 1, 1);
        Due.part(x, 1, 1, 1);
        Due.yes("25: seen", x.seen(0, 3, 2));
        Due.is("25: nothing landed", x.discard(0), 0);
        Due.yes("25: land", x.land(0, 0, 100, 1, 99999));
        Due.is("25: 66.7", x.discard(0), 66);
        Due.yes("25: land", x.land(0, 1, 50, 1, 1));
        Due.is("25: of all holders", x.discard(0), 100);
        Due.yes("25: land", x.land(1, 1, 50, 1, 1));
        Due.is("25: of this stock alone", x.discard(0), 100);
        Due.yes("25: seen more", x.seen(0, 1, 0));
        Due.is("25: over all kept", x.discard(0), 75);
        Due.yes("25: seen more", x.seen(0, 0, 5));
        Due.is("25: all thrown back", x.discard(0), 262);
        Due.is("25: the other stock has seen nothing", x.discard(1), -1);
    }

    private static void discardingTheMost() {
        CatchShares x = Due.made(1, 1);
        Due.part(x, 0, 1);
        for (int i = 0; i < 200; i++) {
            Due.yes("25: land", x.land(0, 0, 1000000000L, 1, 1));
        }
        Due.yes("25: seen", x.seen(0, 1, 1000000));
        Due.is("25: the most", x.discard(0), 200000000000000000L);
    }
}
