/** Promises 16 and 17: into, pooled. */
public final class PoolTest {
    public static void main(String[] args) {
        CatchShares x = Due.made(4, 100, 100);
        Due.no("16: holder -1", x.into(-1, 0));
        Due.no("16: holder 4", x.into(4, 0));
        Due.no("16: pool 4", x.into(0, 4));
        Due.no("16: pool -2", x.into(0, -2));
        Due.yes("16: pool 0", x.into(0, 0));
        Due.yes("16: pool 3", x.into(1, 3));
        Due.yes("16: pool 3, too", x.into(2, 3));
        Due.is("17: stock -1", x.pooled(-1, 0), -1);
        Due.is("17: stock 2", x.pooled(2, 0), -1);
        Due.is("17: pool -1", x.pooled(0, -1), -1);
        Due.is("17: pool 4", x.pooled(0, 4), -1);
        Due.is("17: not parted", x.pooled(0, 0), 0);
        Due.part(x, 0, 4, 3, 2, 1);
        Due.is("17: pool 0", x.pooled(0, 0), 40);
        Due.is("17: pool 3", x.pooled(0, 3), 50);
        Due.is("17: an empty pool", x.pooled(0, 1), 0);
        Due.is("17: other stock", x.pooled(1, 3), 0);
        Due.yes("17: land", x.land(0, 1, 51, 1, 99999));
        Due.is("17: -1 may be", x.pooled(0, 3), -1);
        Due.yes("16: out of it", x.into(1, -1));
        Due.is("17: without it", x.pooled(0, 3), 20);
        Due.yes("16: into another", x.into(2, 0));
        Due.is("17: of the one", x.pooled(0, 3), 0);
        Due.is("17: of the other", x.pooled(0, 0), 60);
        Due.no("16: refused", x.into(2, 4));
        Due.is("17: as before", x.pooled(0, 0), 60);
        Due.yes("16: pool 2", x.into(3, 2));
        Due.is("17: pool 2", x.pooled(0, 2), 10);
        Due.yes("16: pool 1", x.into(0, 1));
        Due.is("17: pool 1", x.pooled(0, 1), 40);
        Due.is("16: a new holder", x.holder(1), 4);
        Due.is("16: is in no pool", x.pooled(0, 0), 20);
        allHolders();
        Due.end();
    }

    private static void allHolders() {
        CatchShares x = Due.made(12, 1200);
        Due.part(x, 0, 1, 1, 1, 1, 1, 1, 1, 1, 1, 1, 1, 1);
        for (int h = 0; h < 12; h++) {
            Due.yes("16: into", x.into(h, h < 11 ? 1 : 2));
        }
        Due.is("17: all but one", x.pooled(0, 1), 1100);
        Due.is("17: the last one", x.pooled(0, 2), 100);
    }
}
