/** Promises 26 and 27: told, sums; and of all reading calls that they change nothing. */
public final class TellTest {
    public static void main(String[] args) {
        Due.test("26: NONE when there is none such", TellTest::toldOfNoStock);
        Due.test("26: NONE for others", TellTest::toldOfOthers);
        Due.test("26: of a new stock", TellTest::toldAtFirst);
        Due.test("26: 0 ALLOWED, 1 ASIDE", TellTest::toldAllowed);
        Due.test("26: 2 1 when it is parted, otherwise 0", TellTest::toldParted);
        Due.test("26: 3 shares of all holders", TellTest::toldShares);
        Due.test("26: 4 landings in grams", TellTest::toldLandings);
        Due.test("26: 5 CAP", TellTest::toldCap);
        Due.test("26: 6 the stock that it FOLLOWS (or NONE)", TellTest::toldFollowed);
        Due.test("27: false when there is no such stock", TellTest::sumsOfNoStock);
        Due.test("27: false when it is not parted", TellTest::sumsOfNotParted);
        Due.test("27: shares come to ALLOWED less ASIDE", TellTest::sumsOfParted);
        Due.test("27: with all that was carried into them", TellTest::sumsOfCarried);
        Due.test("27: and swapped since", TellTest::sumsOfSwapped);
        Due.test("Terms: What is refused changes nothing (nor what is read)", TellTest::readingChangesNothing);
        Due.end();
    }

    private static void tells(String run, CatchShares x, int stock, long... want) {
        for (int what = 0; what < want.length; what++) {
            Due.is(run + ": told(" + stock + ", " + what + ")", x.told(stock, what), want[what]);
        }
    }

    private static void toldOfNoStock() {
        for (int what = 0; what < 7; what++) {
            int it = what;
            Trial.noSuchStock(-1, (y, stock) -> y.told(stock, it));
        }
        Due.is("the last stock", Due.made(1, 1, 2, 3, 4, 5, 6, 7, 8).told(7, 0), 8);
    }

    private static void toldOfOthers() {
        Trial busy = Trial.busy();
        for (int what : Trial.noneOf(7)) {
            busy.none("what " + what, y -> y.told(0, what));
        }
    }

    private static void toldAtFirst() {
        CatchShares x = Due.made(2, 70);
        tells("new", x, 0, 70, 0, 0, 0, 0, 100, -1);
    }

    private static void toldAllowed() {
        CatchShares x = Due.made(1, 0, 1000000000L);
        Due.yes("aside", x.aside(1, 1000000000L));
        tells("the least", x, 0, 0, 0);
        tells("the greatest", x, 1, 1000000000L, 1000000000L);
        Due.part(x, 1, 1);
        tells("parted", x, 1, 1000000000L, 1000000000L);
    }

    private static void toldParted() {
        CatchShares x = Due.made(1, 0, 100);
        Due.is("before", x.told(0, 2), 0);
        Due.none("part without weights", x.part(0));
        Due.is("refused", x.told(0, 2), 0);
        Due.yes("weight", x.weight(0, 0, 1));
        Due.is("with a weight", x.told(0, 2), 0);
        Due.is("part", x.part(0), 0);
        Due.is("after, though nobody has a share", x.told(0, 2), 1);
        Due.is("the other stock", x.told(1, 2), 0);
    }

    private static void toldShares() {
        CatchShares x = Due.made(12, 100, 1000000000L);
        Due.yes("aside", x.aside(0, 1));
        Due.weigh(x, 0, 1, 1, 1, 1, 1, 1, 1, 1, 1, 1, 1, 1);
        Due.is("0 before", x.told(0, 3), 0);
        Due.is("part", x.part(0), 12);
        Due.is("all", x.told(0, 3), 99);
        Due.yes("land", x.land(0, 0, 50, 1, 1));
        Due.is("landings do not change them", x.told(0, 3), 99);
        Due.is("transfer", x.transfer(0, 1, 2, 8), 0);
        Due.is("nor does a transfer", x.told(0, 3), 99);
        Due.part(x, 1, 0, 0, 0, 0, 0, 0, 0, 0, 0, 0, 0, 1);
        Due.is("swap", x.swap(0, 1, 1, 1, 11, 8), 0);
        Due.is("a swap does", x.told(0, 3), 91);
        Due.is("and of the other", x.told(1, 3), 1000000008L);
    }

    private static void toldLandings() {
        CatchShares x = Due.made(2, 100, 100);
        Due.part(x, 0, 1, 1);
        Due.part(x, 1, 1, 1);
        Due.is("nothing landed", x.told(0, 4), 0);
        Due.yes("land", x.land(0, 0, 1, 0, 99999));
        Due.yes("land", x.land(0, 1, 2, 0, 0));
        Due.yes("land", x.land(1, 1, 40, 0, 0));
        Due.is("of all holders and days", x.told(0, 4), 3);
        for (int i = 3; i < 200; i++) {
            Due.yes("land", x.land(0, 1, 1000000000L, 0, 0));
        }
        Due.is("the most", x.told(0, 4), 197000000003L);
        Due.is("of the other stock", x.told(1, 4), 40);
    }

    private static void toldCap() {
        CatchShares x = Due.made(1, 100, 100);
        Due.is("at first", x.told(0, 5), 100);
        Due.yes("cap", x.cap(0, 0));
        Due.is("the least", x.told(0, 5), 0);
        Due.is("of the other stock", x.told(1, 5), 100);
    }

    private static void toldFollowed() {
        CatchShares x = Due.made(1, 100, 100);
        Due.none("nothing", x.told(1, 6));
        Due.part(x, 0, 1);
        Due.yes("follows", x.follows(1, 0));
        Due.is("the first", x.told(1, 6), 0);
        Due.none("the one before follows nothing", x.told(0, 6));
        Due.part(x, 1, 1);
        Due.is("parted", x.told(1, 6), 0);
    }

    private static void sumsOfNoStock() {
        Trial.noSuchStock(0, (y, stock) -> Trial.bit(y.sums(stock)));
        CatchShares x = Due.made(1, 1, 2, 3, 4, 5, 6, 7, 8);
        Due.part(x, 7, 1);
        Due.yes("the last stock", x.sums(7));
    }

    private static void sumsOfNotParted() {
        Trial busy = Trial.busy();
        busy.no("with weights", y -> y.sums(2));
        busy.no("without weights", y -> y.sums(3));
        CatchShares x = Due.made(1, 0);
        Due.no("nothing to part, before", x.sums(0));
        Due.part(x, 0, 1);
        Due.yes("nothing to part, after", x.sums(0));
    }

    private static void sumsOfParted() {
        CatchShares x = Due.made(3, 100, 1000000000L, 50);
        Due.yes("aside", x.aside(0, 1));
        Due.part(x, 0, 1, 1, 1);
        Due.yes("parted", x.sums(0));
        Due.part(x, 1, 999999, 1000000, 7);
        Due.yes("the most", x.sums(1));
        Due.yes("aside", x.aside(2, 50));
        Due.part(x, 2, 1, 1, 1);
        Due.yes("all set aside", x.sums(2));
        Due.is("transfer", x.transfer(0, 0, 1, 10), 0);
        Due.yes("transferred", x.sums(0));
        Due.yes("land", x.land(0, 0, 1000, 1, 1));
        Due.yes("landed", x.sums(0));
    }

    private static void sumsOfCarried() {
        CatchShares x = Due.made(3, 90, 30);
        Due.part(x, 0, 1, 1, 1);
        Due.yes("land", x.land(0, 0, 100, 1, 1));
        Due.yes("land", x.land(0, 1, 35, 1, 1));
        Due.yes("follows", x.follows(1, 0));
        Due.part(x, 1, 1, 1, 1);
        Due.shares("70 over, 5 over, a tenth", x, 1, 0, 5, 13);
        Due.is("shares", x.told(1, 3), 18);
        Due.yes("carried", x.sums(1));
        Due.is("swap", x.swap(1, 0, 2, 1, 2, 4), 0);
        Due.yes("carried and swapped", x.sums(1));
        Due.yes("swapped to", x.sums(0));
    }

    private static void sumsOfSwapped() {
        CatchShares x = Due.made(3, 99, 101);
        Due.part(x, 0, 1, 1, 1);
        Due.part(x, 1, 1, 2, 4);
        Due.is("swap", x.swap(0, 1, 5, 2, 2, 20), 0);
        Due.yes("from", x.sums(0));
        Due.yes("to", x.sums(1));
        Due.is("no whole number", x.swap(0, 1, 1, 2, 2, 1), 2);
        Due.is("less LEFT", x.swap(0, 1, 1, 1, 2, 14), 1);
        Due.yes("refused, from", x.sums(0));
        Due.yes("refused, to", x.sums(1));
        Due.is("swap of all", x.swap(0, 1, 1000, 1, 2, 13), 0);
        Due.yes("all, from", x.sums(0));
        Due.yes("all, to", x.sums(1));
    }

    private static void readingChangesNothing() {
        Trial busy = Trial.busy();
        busy.answers("given", y -> y.given(0, 0), 500);
        busy.answers("left", y -> y.left(0, 0, 5), 400);
        busy.answers("over", y -> y.over(0, 1), 101);
        busy.answers("carried", y -> y.carried(0, 1), -152);
        busy.answers("pooled", y -> y.pooled(0, 1), 299);
        busy.answers("hold", y -> y.hold(0, 2), 150000000000000000L);
        busy.answers("capped", y -> y.capped(0) ? 1 : 0, 1);
        busy.answers("choke", y -> y.choke(2), 1);
        busy.answers("closes", y -> y.closes(0, 7), 86);
        busy.answers("discard", y -> y.discard(0), 350);
        busy.answers("told", y -> y.told(0, 4), 501);
        busy.answers("sums", y -> y.sums(0) ? 1 : 0, 1);
    }
}
