/** Promises 1 to 8: a new object, stock, holder, weight, aside, follows, part, given. */
public final class StockTest {
    public static void main(String[] args) {
        newObject();
        stocks();
        holders();
        weights();
        asides();
        following();
        parting();
        lastGrams();
        carryingIn();
        carryingInOfAll();
        giving();
        Due.end();
    }

    private static void newObject() {
        CatchShares x = new CatchShares();
        Due.is("1: NONE", CatchShares.NONE, -1);
        Due.is("1: told(0, 0)", x.told(0, 0), -1);
        Due.is("1: given(0, 0)", x.given(0, 0), -1);
        Due.is("1: choke(0)", x.choke(0), -1);
        Due.no("1: into(0, 0)", x.into(0, 0));
        Due.no("1: capped(0)", x.capped(0));
        Due.is("1: hold(0, 1)", x.hold(0, 1), 0);
        CatchShares other = new CatchShares();
        other.stock(5);
        Due.is("1: objects share nothing", x.told(0, 0), -1);
    }

    private static void stocks() {
        CatchShares x = new CatchShares();
        Due.is("2: stock(-1)", x.stock(-1), -1);
        Due.is("2: stock(1000000001)", x.stock(1000000001L), -1);
        Due.is("2: stock(Long.MIN_VALUE)", x.stock(Long.MIN_VALUE), -1);
        Due.is("2: stock(0)", x.stock(0), 0);
        Due.is("2: stock(1000000000)", x.stock(1000000000L), 1);
        for (int i = 2; i < 8; i++) {
            Due.is("2: stock(" + i + ")", x.stock(i), i);
        }
        Due.is("2: ninth", x.stock(1), -1);
        Due.is("2: told(0, 0)", x.told(0, 0), 0);
        Due.is("2: told(1, 0)", x.told(1, 0), 1000000000L);
        Due.is("2: told(7, 0)", x.told(7, 0), 7);
        Due.is("2: told(8, 0)", x.told(8, 0), -1);
    }

    private static void holders() {
        CatchShares x = new CatchShares();
        Due.is("3: holder(-1)", x.holder(-1), -1);
        Due.is("3: holder(10)", x.holder(10), -1);
        for (int i = 0; i < 12; i++) {
            Due.is("3: holder " + i, x.holder(9 - i % 10), i);
        }
        Due.is("3: thirteenth", x.holder(0), -1);
        x.stock(1);
        Due.is("3: given(0, 11)", x.given(0, 11), 0);
        Due.is("3: given(0, 12)", x.given(0, 12), -1);
    }

    private static void weights() {
        CatchShares x = Due.made(2, 100, 100);
        Due.no("4: stock -1", x.weight(-1, 0, 1));
        Due.no("4: stock 2", x.weight(2, 0, 1));
        Due.no("4: holder -1", x.weight(0, -1, 1));
        Due.no("4: holder 2", x.weight(0, 2, 1));
        Due.no("4: -1", x.weight(0, 0, -1));
        Due.no("4: 1000001", x.weight(0, 0, 1000001));
        Due.yes("4: 1000000", x.weight(0, 0, 1000000));
        Due.yes("4: 0", x.weight(0, 1, 0));
        Due.yes("4: again", x.weight(0, 0, 1));
        Due.yes("4: other holder", x.weight(0, 1, 3));
        Due.no("4: refused changes nothing", x.weight(0, 1, 1000001));
        Due.is("4: part", x.part(0), 2);
        Due.shares("4", x, 0, 25, 75);
        Due.no("4: parted", x.weight(0, 0, 5));
        Due.yes("4: other stock is not", x.weight(1, 0, 5));
    }

    private static void asides() {
        CatchShares x = Due.made(1, 100, 0);
        Due.no("5: stock -1", x.aside(-1, 0));
        Due.no("5: stock 2", x.aside(2, 0));
        Due.no("5: -1", x.aside(0, -1));
        Due.no("5: 101", x.aside(0, 101));
        Due.yes("5: 100", x.aside(0, 100));
        Due.is("5: told", x.told(0, 1), 100);
        Due.no("5: of nothing", x.aside(1, 1));
        Due.yes("5: nothing of nothing", x.aside(1, 0));
        Due.yes("5: set anew, not added", x.aside(0, 30));
        Due.no("5: refused", x.aside(0, 101));
        Due.is("5: told anew", x.told(0, 1), 30);
        Due.part(x, 0, 1);
        Due.shares("5", x, 0, 70);
        Due.no("5: parted", x.aside(0, 10));
        Due.is("5: told still", x.told(0, 1), 30);
    }

    private static void following() {
        CatchShares x = Due.made(1, 100, 100, 100, 100);
        Due.no("6: not parted", x.follows(1, 0));
        Due.part(x, 0, 1);
        Due.no("6: stock -1", x.follows(-1, 0));
        Due.no("6: stock 4", x.follows(4, 0));
        Due.no("6: old -1", x.follows(1, -1));
        Due.no("6: old 4", x.follows(1, 4));
        Due.no("6: itself", x.follows(1, 1));
        Due.no("6: itself, parted", x.follows(0, 0));
        Due.is("6: nothing yet", x.told(1, 6), -1);
        Due.yes("6: 1 follows 0", x.follows(1, 0));
        Due.no("6: already", x.follows(1, 0));
        Due.is("6: told", x.told(1, 6), 0);
        Due.yes("6: another follows the same", x.follows(2, 0));
        Due.part(x, 1, 1);
        Due.no("6: parted", x.follows(1, 0));
        Due.yes("6: a chain", x.follows(3, 1));
        Due.is("6: told of the chain", x.told(3, 6), 1);
        Due.no("6: follows another already", x.follows(3, 0));
        Due.is("6: told of the chain still", x.told(3, 6), 1);
        CatchShares y = Due.made(1, 100, 100);
        Due.part(y, 0, 1);
        Due.part(y, 1, 1);
        Due.no("6: parted without following", y.follows(1, 0));
    }

    private static void parting() {
        CatchShares x = Due.made(3, 100, 0, 100);
        Due.is("7: stock -1", x.part(-1), -1);
        Due.is("7: stock 3", x.part(3), -1);
        Due.is("7: no weights", x.part(0), -1);
        Due.is("7: not parted by that", x.told(0, 2), 0);
        x.weight(0, 0, 1);
        x.weight(0, 2, 1);
        Due.is("7: two above 0", x.part(0), 2);
        Due.is("7: parted", x.told(0, 2), 1);
        Due.is("7: twice", x.part(0), -1);
        Due.shares("7", x, 0, 50, 0, 50);
        x.weight(1, 0, 1);
        Due.is("7: nothing to part", x.part(1), 0);
        Due.is("7: parted all the same", x.told(1, 2), 1);
        x.aside(2, 99);
        x.weight(2, 0, 1);
        x.weight(2, 1, 1);
        x.weight(2, 2, 1);
        Due.is("7: one gram", x.part(2), 1);
        Due.shares("7: one gram", x, 2, 1, 0, 0);
        Due.is("7: a later holder", x.holder(5), 3);
        Due.is("7: has nothing", x.given(0, 3), 0);
    }

    private static void lastGrams() {
        CatchShares x = Due.made(4, 10, 1000000000L, 11, 10);
        // 10 by 1, 2, 4, 0 of 7: rests 3, 6, 5
        Due.part(x, 0, 1, 2, 4, 0);
        Due.shares("7: greatest rest", x, 0, 1, 3, 6, 0);
        // 11 by 3, 3, 3, 1 of 10: 3.3, 3.3, 3.3, 1.1
        Due.part(x, 2, 3, 3, 3, 1);
        Due.shares("7: same rest", x, 2, 4, 3, 3, 1);
        // 10 by 1, 1, 3, 2 of 7: rests 3, 3, 2, 6, two grams over
        Due.part(x, 3, 1, 1, 3, 2);
        Due.shares("7: rest, then number", x, 3, 2, 1, 4, 3);
        Due.part(x, 1, 1000000, 999999, 999998, 7);
        Due.shares("7: great weights", x, 1, 333332889, 333332556, 333332222, 2333);
        Due.is("7: nothing lost", x.told(1, 3), 1000000000L);
        // weights as large as they may be, of all holders
        CatchShares y = Due.made(12, 1000000000L);
        Due.part(y, 0, 1000000, 1000000, 1000000, 1000000, 1000000, 1000000,
            1000000, 1000000, 1000000, 1000000, 1000000, 999999);
        Due.is("7: first of all", y.given(0, 0), 83333341);
        Due.is("7: last of all", y.given(0, 11), 83333257);
        Due.is("7: all of all", y.told(0, 3), 1000000000L);
    }

    private static void carryingIn() {
        CatchShares x = Due.made(4, 400, 100, 0);
        Due.part(x, 0, 1, 1, 1, 1);
        x.land(0, 0, 95, 1, 1);
        x.land(0, 1, 130, 1, 1);
        x.land(0, 2, 100, 1, 1);
        x.follows(1, 0);
        // told after the following, before the parting: it counts
        x.land(0, 3, 40, 2, 2);
        x.weight(1, 0, 1);
        x.weight(1, 1, 1);
        x.weight(1, 2, 2);
        Due.is("7: part with carried", x.part(1), 3);
        // 25 + 5, 25 - 30, 50 + 0, 0 + 10
        Due.shares("7: carried", x, 1, 30, 0, 50, 10);
        // a landing after the parting changes nothing in what was carried
        x.land(0, 3, 100, 3, 3);
        Due.shares("7: carried then", x, 1, 30, 0, 50, 10);
        x.follows(2, 1);
        x.weight(2, 0, 1);
        x.penalty(2, 1);
        x.land(1, 2, 51, 3, 3);
        Due.is("7: part of nothing with carried", x.part(2), 2);
        Due.shares("7: carried on", x, 2, 3, 0, 0, 1);
    }

    private static void carryingInOfAll() {
        CatchShares x = Due.made(12, 1200, 12);
        Due.part(x, 0, 1, 1, 1, 1, 1, 1, 1, 1, 1, 1, 1, 1);
        Due.yes("7: follows", x.follows(1, 0));
        Due.part(x, 1, 1, 1, 1, 1, 1, 1, 1, 1, 1, 1, 1, 1);
        Due.shares("7: carried of all", x, 1, 11, 11, 11, 11, 11, 11, 11, 11, 11, 11, 11, 11);
    }

    private static void giving() {
        CatchShares x = Due.made(2, 9);
        Due.is("8: stock -1", x.given(-1, 0), -1);
        Due.is("8: stock 1", x.given(1, 0), -1);
        Due.is("8: holder -1", x.given(0, -1), -1);
        Due.is("8: holder 2", x.given(0, 2), -1);
        Due.is("8: before", x.given(0, 0), 0);
        Due.part(x, 0, 2, 1);
        Due.shares("8", x, 0, 6, 3);
        x.land(0, 0, 4, 1, 1);
        Due.is("8: landings do not change it", x.given(0, 0), 6);
    }
}
