/** Promises 1 to 3: a new object, stock, holder. */
public final class StockTest {
    private static final long WHOLE = 1000000000000000000L;

    public static void main(String[] args) {
        Due.test("1: Nothing (no stock)", StockTest::noStockYet);
        Due.test("1: Nothing (no holder)", StockTest::noHolderYet);
        Due.test("1: Nothing (no part of another owner)", StockTest::noPartYet);
        Due.test("1: Nothing (of another object)", StockTest::objectsShareNothing);
        Due.test("2: A new stock: its number", StockTest::stocksAreNumbered);
        Due.test("2: NONE when there are 8", StockTest::eightStocks);
        Due.test("2: NONE when allowed is not 0 .. 1000000000", StockTest::allowedRange);
        Due.test("3: A new holder: its number", StockTest::holdersAreNumbered);
        Due.test("3: NONE when there are 12", StockTest::twelveHolders);
        Due.test("3: NONE when there is no such owner", StockTest::ownerRange);
        Due.end();
    }

    private static void noStockYet() {
        Due.is("NONE", CatchShares.NONE, -1);
        CatchShares x = new CatchShares();
        for (int what = 0; what < 7; what++) {
            Due.none("told", x.told(0, what));
        }
        Due.none("part", x.part(0));
        Due.none("pooled", x.pooled(0, 0));
        Due.none("closes", x.closes(0, 1));
        Due.none("discard", x.discard(0));
        Due.no("sums", x.sums(0));
        Due.no("cap", x.cap(0, 1));
        Due.no("aside", x.aside(0, 0));
        Due.no("seen", x.seen(0, 0, 0));
        Due.is("the first", x.stock(0), 0);
    }

    private static void noHolderYet() {
        CatchShares x = Due.made(0, 100, 100);
        Due.none("given", x.given(0, 0));
        Due.none("left", x.left(0, 0, 0));
        Due.none("over", x.over(0, 0));
        Due.none("carried", x.carried(0, 0));
        Due.none("choke", x.choke(0));
        Due.none("transfer", x.transfer(0, 0, 1, 1));
        Due.none("swap", x.swap(0, 1, 1, 1, 0, 1));
        Due.no("weight", x.weight(0, 0, 1));
        Due.no("land", x.land(0, 0, 1, 0, 0));
        Due.no("into", x.into(0, 0));
        Due.is("the first", x.holder(0), 0);
    }

    private static void noPartYet() {
        CatchShares x = new CatchShares();
        for (int owner = 0; owner < 10; owner++) {
            for (int other = 0; other < 10; other++) {
                Due.is("hold(" + owner + ", " + other + ")", x.hold(owner, other), owner == other ? WHOLE : 0);
            }
            Due.no("capped", x.capped(owner));
        }
    }

    private static void objectsShareNothing() {
        CatchShares x = new CatchShares();
        CatchShares other = Due.made(1, 5);
        Due.none("no stock of the other", x.told(0, 0));
        Due.no("no holder of the other", x.into(0, 0));
        Due.is("a stock of its own", x.stock(6), 0);
        Due.is("a holder of its own", x.holder(0), 0);
        Due.part(x, 0, 1);
        Due.part(other, 0, 1);
        for (int i = 0; i < 200; i++) {
            Due.yes("land", other.land(0, 0, 1, 0, 0));
        }
        Due.yes("owns", other.owns(0, 1, 50));
        Due.yes("penalty", other.penalty(3, 1));
        Due.yes("cap", other.cap(0, 7));
        Due.yes("into", other.into(0, 2));
        Due.yes("seen", other.seen(0, 1, 1));
        Due.yes("land in its own", x.land(0, 0, 8, 0, 0));
        Due.is("no part of the other", x.hold(0, 1), 0);
        Due.is("no penalty of the other", x.carried(0, 0), -2);
        Due.is("no cap of the other", x.told(0, 5), 100);
        Due.is("no pool of the other", x.pooled(0, 2), 0);
        Due.none("nothing seen by the other", x.discard(0));
        Due.is("its own landings", x.told(0, 4), 8);
        Due.is("the other's landings", other.told(0, 4), 200);
        Due.is("the other's stock", other.told(0, 0), 5);
    }

    private static void stocksAreNumbered() {
        CatchShares x = new CatchShares();
        Due.is("first", x.stock(40), 0);
        Due.none("refused", x.stock(-1));
        Due.is("no number is left out", x.stock(50), 1);
        Due.is("first told", x.told(0, 0), 40);
        Due.is("second told", x.told(1, 0), 50);
        Due.none("third not yet", x.told(2, 0));
    }

    private static void eightStocks() {
        CatchShares x = new CatchShares();
        for (int i = 0; i < 8; i++) {
            Due.none("too large, not counted", x.stock(1000000001L));
            Due.is("stock", x.stock(10 + i), i);
        }
        Due.none("ninth", x.stock(5));
        Due.none("tenth", x.stock(5));
        for (int i = 0; i < 8; i++) {
            Due.is("told", x.told(i, 0), 10 + i);
        }
        Due.none("no ninth", x.told(8, 0));
        Trial full = new Trial(y -> {
            for (int i = 0; i < 8; i++) {
                y.stock(10 + i);
            }
            y.holder(0);
        });
        full.none("ninth of 0", y -> y.stock(0));
        full.none("ninth", y -> y.stock(1000000000L));
        full.none("ninth, too large", y -> y.stock(1000000001L));
    }

    private static void allowedRange() {
        CatchShares x = new CatchShares();
        Due.is("0", x.stock(0), 0);
        Due.is("1000000000", x.stock(1000000000L), 1);
        Due.is("told 0", x.told(0, 0), 0);
        Due.is("told 1000000000", x.told(1, 0), 1000000000L);
        Trial empty = new Trial(y -> { });
        Trial busy = Trial.busy();
        for (long allowed : Trial.outside(0, 1000000000L)) {
            empty.none("stock(" + allowed + ")", y -> y.stock(allowed));
            busy.none("stock(" + allowed + ")", y -> y.stock(allowed));
        }
    }

    private static void holdersAreNumbered() {
        CatchShares x = new CatchShares();
        Due.is("first", x.holder(3), 0);
        Due.none("refused", x.holder(10));
        Due.is("no number is left out, of the same owner", x.holder(3), 1);
        Due.is("stock", x.stock(1), 0);
        Due.is("second", x.given(0, 1), 0);
        Due.none("third not yet", x.given(0, 2));
    }

    private static void twelveHolders() {
        CatchShares x = Due.made(0, 78);
        for (int i = 0; i < 12; i++) {
            Due.none("of no owner, not counted", x.holder(-1));
            Due.is("holder", x.holder(9 - i % 10), i);
        }
        Due.none("thirteenth", x.holder(0));
        Due.is("twelfth", x.given(0, 11), 0);
        Due.none("no thirteenth", x.given(0, 12));
        Due.part(x, 0, 1, 2, 3, 4, 5, 6, 7, 8, 9, 10, 11, 12);
        Due.shares("all have their own", x, 0, 1, 2, 3, 4, 5, 6, 7, 8, 9, 10, 11, 12);
        Trial full = new Trial(y -> {
            for (int i = 0; i < 12; i++) {
                y.holder(i % 10);
            }
            y.stock(1);
            y.cap(0, 0);
            y.weight(0, 11, 1);
            y.into(11, 2);
        });
        full.none("thirteenth of 0", y -> y.holder(0));
        full.none("thirteenth of 9", y -> y.holder(9));
        full.none("thirteenth of nobody", y -> y.holder(10));
    }

    private static void ownerRange() {
        CatchShares x = Due.made(0, 1);
        Due.yes("cap", x.cap(0, 0));
        Due.is("of 0", x.holder(0), 0);
        Due.is("of 9", x.holder(9), 1);
        Due.yes("weight", x.weight(0, 0, 1));
        Due.yes("it is 0's", x.capped(0));
        Due.no("not 9's", x.capped(9));
        Due.yes("weight", x.weight(0, 0, 0));
        Due.yes("weight", x.weight(0, 1, 1));
        Due.no("not 0's", x.capped(0));
        Due.yes("it is 9's", x.capped(9));
        Trial empty = new Trial(y -> { });
        Trial busy = Trial.busy();
        for (int owner : Trial.noneOf(10)) {
            empty.none("holder(" + owner + ")", y -> y.holder(owner));
            busy.none("holder(" + owner + ")", y -> y.holder(owner));
        }
    }
}
