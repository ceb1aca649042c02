/** Promises 24 and 25: seen, discard. */
public final class DiscardTest {
    public static void main(String[] args) {
        Due.test("24: False when there is no such stock", DiscardTest::seenOfNoStock);
        Due.test("24: False when kept is not 0 .. 1000000", DiscardTest::keptRange);
        Due.test("24: False when thrown is not 0 .. 1000000", DiscardTest::thrownRange);
        Due.test("24: False when all kept would be more than 1000000", DiscardTest::allKept);
        Due.test("24: False when all thrown back would be more than 1000000", DiscardTest::allThrown);
        Due.test("24: Observers saw so much more (parted or not)", DiscardTest::seenMore);
        Due.test("25: NONE when there is no such stock", DiscardTest::discardOfNoStock);
        Due.test("25: NONE when nothing was kept", DiscardTest::nothingKept);
        Due.test("25: rounded down", DiscardTest::roundedDown);
        Due.test("25: All landings of a stock (nothing landed, nothing thrown back)", DiscardTest::nothingThere);
        Due.test("25: All landings of a stock", DiscardTest::allLandings);
        Due.test("25: All landings of a stock times all thrown back (the most)", DiscardTest::most);
        Due.end();
    }

    /** One stock, of which so much was landed. */
    private static void land(CatchShares x, long grams) {
        x.stock(1000);
        x.holder(0);
        Due.part(x, 0, 1);
        Due.yes("land", x.land(0, 0, grams, 1, 1));
    }

    private static CatchShares landed(long grams) {
        CatchShares x = new CatchShares();
        land(x, grams);
        return x;
    }

    private static void seenOfNoStock() {
        Trial.noSuchStock(0, (y, stock) -> Trial.bit(y.seen(stock, 1, 1)));
        Due.yes("the last stock", Due.made(1, 1, 2, 3, 4, 5, 6, 7, 8).seen(7, 1, 1));
    }

    private static void keptRange() {
        CatchShares x = landed(1000000);
        Due.yes("0", x.seen(0, 0, 5));
        Due.none("nothing kept", x.discard(0));
        Due.yes("1000000", x.seen(0, 1000000, 0));
        Due.is("discard", x.discard(0), 5);
        Trial busy = Trial.busy();
        for (long kept : Trial.outside(0, 1000000)) {
            busy.no("kept " + kept, y -> y.seen(0, kept, 1));
            busy.no("first kept " + kept, y -> y.seen(2, kept, 1));
        }
    }

    private static void thrownRange() {
        CatchShares x = landed(3);
        Due.yes("0", x.seen(0, 1, 0));
        Due.is("nothing thrown back", x.discard(0), 0);
        Due.yes("1000000", x.seen(0, 0, 1000000));
        Due.is("discard", x.discard(0), 3000000);
        Trial busy = Trial.busy();
        for (long thrown : Trial.outside(0, 1000000)) {
            busy.no("thrown " + thrown, y -> y.seen(0, 1, thrown));
            busy.no("first thrown " + thrown, y -> y.seen(2, 1, thrown));
        }
    }

    private static void allKept() {
        CatchShares x = landed(1000000);
        Due.yes("999999", x.seen(0, 999999, 1));
        Due.no("two more", x.seen(0, 2, 0));
        Due.yes("one more", x.seen(0, 1, 0));
        Due.no("and one", x.seen(0, 1, 0));
        Due.yes("and none", x.seen(0, 0, 1));
        Due.is("discard", x.discard(0), 2);
        Trial full = new Trial(y -> {
            land(y, 1000000);
            y.seen(0, 1000000, 7);
        });
        full.no("one more kept, nothing thrown back", y -> y.seen(0, 1, 0));
        full.no("one more kept, more thrown back is not seen then", y -> y.seen(0, 1, 5));
        full.no("all over again", y -> y.seen(0, 1000000, 0));
        full.no("what would wrap around", y -> y.seen(0, Long.MAX_VALUE, 0));
    }

    private static void allThrown() {
        CatchShares x = landed(1);
        Due.yes("999999", x.seen(0, 1, 999999));
        Due.no("two more", x.seen(0, 0, 2));
        Due.yes("one more", x.seen(0, 0, 1));
        Due.no("and one", x.seen(0, 0, 1));
        Due.is("discard", x.discard(0), 1000000);
        Due.yes("and none", x.seen(0, 1, 0));
        Due.is("of more kept", x.discard(0), 500000);
        Trial full = new Trial(y -> {
            land(y, 1000000);
            y.seen(0, 7, 1000000);
        });
        full.no("one more thrown back, nothing kept", y -> y.seen(0, 0, 1));
        full.no("one more thrown back, more kept is not seen then", y -> y.seen(0, 5, 1));
        full.no("all over again", y -> y.seen(0, 0, 1000000));
        full.no("what would wrap around", y -> y.seen(0, 0, Long.MAX_VALUE));
    }

    private static void seenMore() {
        CatchShares x = Due.made(1, 1000, 1000);
        Due.yes("not parted", x.seen(0, 3, 2));
        Due.part(x, 0, 1);
        Due.yes("land", x.land(0, 0, 120, 1, 1));
        Due.is("3 and 2", x.discard(0), 80);
        Due.yes("parted", x.seen(0, 1, 0));
        Due.is("4 and 2", x.discard(0), 60);
        Due.yes("more thrown back", x.seen(0, 0, 5));
        Due.is("4 and 7", x.discard(0), 210);
        Due.yes("nothing", x.seen(0, 0, 0));
        Due.is("the same", x.discard(0), 210);
        Due.none("the other stock", x.discard(1));
        Due.yes("the most of the other", x.seen(1, 1000000, 1000000));
        Due.yes("each stock for itself", x.seen(0, 1, 1));
    }

    private static void discardOfNoStock() {
        Trial.noSuchStock(-1, (y, stock) -> y.discard(stock));
        CatchShares x = Due.made(1, 1, 2, 3, 4, 5, 6, 7, 8);
        Due.yes("seen", x.seen(7, 1, 1));
        Due.is("the last stock", x.discard(7), 0);
    }

    private static void nothingKept() {
        CatchShares x = landed(10);
        Due.none("nothing seen", x.discard(0));
        Due.yes("seen", x.seen(0, 0, 0));
        Due.none("nothing", x.discard(0));
        Due.yes("seen", x.seen(0, 0, 5));
        Due.none("thrown back alone", x.discard(0));
        Due.yes("seen", x.seen(0, 1, 0));
        Due.is("one kept", x.discard(0), 50);
        Trial.busy().none("not parted", y -> y.discard(2));
    }

    private static void roundedDown() {
        CatchShares x = landed(100);
        Due.yes("seen", x.seen(0, 3, 2));
        Due.is("66.7", x.discard(0), 66);
        CatchShares y = landed(1);
        Due.yes("seen", y.seen(0, 1000000, 999999));
        Due.is("0.999999", y.discard(0), 0);
        Due.yes("seen", y.seen(0, 0, 1));
        Due.is("1", y.discard(0), 1);
    }

    private static void nothingThere() {
        CatchShares x = Due.made(1, 100);
        Due.yes("seen", x.seen(0, 1, 1000000));
        Due.is("not parted", x.discard(0), 0);
        Due.part(x, 0, 1);
        Due.is("nothing landed", x.discard(0), 0);
        CatchShares y = landed(10);
        Due.yes("seen", y.seen(0, 5, 0));
        Due.is("nothing thrown back", y.discard(0), 0);
    }

    private static void allLandings() {
        CatchShares x = Due.made(2, 1000, 1000);
        Due.part(x, 0, 1, 1);
        Due.part(x, 1, 1, 1);
        Due.yes("seen", x.seen(0, 1, 2));
        Due.yes("land, told on the last day", x.land(0, 0, 100, 0, 99999));
        Due.yes("land of another holder", x.land(0, 1, 50, 1, 1));
        Due.yes("land of another stock", x.land(1, 0, 7, 1, 1));
        Due.is("discard", x.discard(0), 300);
    }

    private static void most() {
        CatchShares x = Due.made(1, 1);
        Due.part(x, 0, 1);
        for (int i = 0; i < 200; i++) {
            Due.yes("land", x.land(0, 0, 1000000000L, 1, 1));
        }
        Due.yes("seen", x.seen(0, 1, 1000000));
        Due.is("the most", x.discard(0), 200000000000000000L);
        Due.yes("seen", x.seen(0, 999999, 0));
        Due.is("as much", x.discard(0), 200000000000L);
    }
}
