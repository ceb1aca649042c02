/**
 * Catch shares: what may be caught of a stock, parted to holders by weights, with landings, transfers, swaps,
 * carrying into a following stock, pools, owners through owners, caps, chokes, closing days and discards.
 */
public final class CatchShares {
    public static final int NONE = -1;

    private static final int MOST_STOCKS = 8;
    private static final int MOST_HOLDERS = 12;
    private static final int MOST_LANDINGS = 200;
    private static final int OWNERS = 10;
    private static final int POOLS = 4;
    private static final int LAST_DAY = 99999;
    private static final int HUNDRED = 100;
    private static final int MOST_OF_FRACTION = 1000;
    private static final long MOST_GRAMS = 1000000000L;
    private static final long MOST_SHARES = 2000000000L;
    private static final long MOST_WEIGHT = 1000000L;
    private static final long MOST_SEEN = 1000000L;
    private static final long WHOLE_HOLD = 1000000000000000000L;
    private static final long HALF_DIGITS = 1000000000L;

    private final Stock[] stocks;
    private int stockCount;
    private final int[] ownerOf;
    private final int[] poolOf;
    private int holderCount;
    private final Landings landings;
    private final Owners owners;
    private int penaltyAbove;
    private int penaltyBelow;

    public CatchShares() {
        stocks = new Stock[MOST_STOCKS];
        ownerOf = new int[MOST_HOLDERS];
        poolOf = new int[MOST_HOLDERS];
        landings = new Landings();
        owners = new Owners();
        penaltyAbove = 1;
        penaltyBelow = 1;
    }

    public int stock(long allowed) {
        if (stockCount >= MOST_STOCKS || !isWithin(allowed, 0, MOST_GRAMS)) {
            return NONE;
        }
        int number = stockCount;
        stocks[number] = new Stock(number, allowed);
        stockCount++;
        return number;
    }

    public int holder(int owner) {
        if (holderCount >= MOST_HOLDERS || !isOwner(owner)) {
            return NONE;
        }
        int number = holderCount;
        ownerOf[number] = owner;
        poolOf[number] = NONE;
        holderCount++;
        return number;
    }

    public boolean weight(int stock, int holder, long w) {
        Stock s = findStock(stock);
        if (s == null || !isHolder(holder) || s.parted || !isWithin(w, 0, MOST_WEIGHT)) {
            return false;
        }
        s.weights[holder] = w;
        return true;
    }

    public boolean aside(int stock, long grams) {
        Stock s = findStock(stock);
        if (s == null || s.parted || !isWithin(grams, 0, s.allowed)) {
            return false;
        }
        s.setAside = grams;
        return true;
    }

    public boolean follows(int stock, int old) {
        Stock s = findStock(stock);
        Stock before = findStock(old);
        if (s == null || before == null || s.parted || !before.parted || s.followed != NONE) {
            return false;
        }
        s.followed = old;
        return true;
    }

    public int part(int stock) {
        Stock s = findStock(stock);
        if (s == null || s.parted || !s.shareOut()) {
            return NONE;
        }
        Stock before = findStock(s.followed);
        if (before != null) {
            carryOver(before, s);
        }
        s.parted = true;
        return s.countShares();
    }

    public long given(int stock, int holder) {
        Stock s = findStock(stock);
        if (s == null || !isHolder(holder)) {
            return NONE;
        }
        return s.shares[holder];
    }

    public boolean land(int stock, int holder, long grams, int day, int told) {
        Stock s = findStock(stock);
        if (s == null || !isHolder(holder) || !s.parted) {
            return false;
        }
        if (!isWithin(grams, 1, MOST_GRAMS) || !isWithin(day, 0, LAST_DAY) || !isWithin(told, 0, LAST_DAY)) {
            return false;
        }
        if (told < day) {
            return false;
        }
        return landings.add(stock, holder, grams, told);
    }

    public long left(int stock, int holder, int on) {
        Stock s = findStock(stock);
        if (s == null || !isHolder(holder)) {
            return NONE;
        }
        return leftOn(s, holder, on);
    }

    public int transfer(int stock, int a, int b, long grams) {
        Stock s = findStock(stock);
        if (s == null || !isHolder(a) || !isHolder(b) || a == b) {
            return NONE;
        }
        if (!s.parted || !isWithin(grams, 1, MOST_GRAMS)) {
            return NONE;
        }
        if (leftInAll(s, a) < grams) {
            return 1;
        }
        s.shares[a] -= grams;
        s.shares[b] += grams;
        return 0;
    }

    public int swap(int stockA, int stockB, int above, int below, int holder, long grams) {
        Stock from = findStock(stockA);
        Stock to = findStock(stockB);
        if (from == null || to == null || !isHolder(holder) || stockA == stockB) {
            return NONE;
        }
        if (!from.parted || !to.parted || !isFraction(above, below) || !isWithin(grams, 1, MOST_GRAMS)) {
            return NONE;
        }
        if (leftInAll(from, holder) < grams) {
            return 1;
        }
        // A whole number can't be below 1 here: grams and above are both at least 1.
        long product = grams * above;
        if (product % below != 0) {
            return 2;
        }
        long got = product / below;
        if (to.allShares() + got > MOST_SHARES) {
            return 2;
        }
        from.swapShare(holder, -grams);
        to.swapShare(holder, got);
        return 0;
    }

    public long over(int stock, int holder) {
        Stock s = findStock(stock);
        if (s == null || !isHolder(holder)) {
            return NONE;
        }
        return overOf(s, holder);
    }

    public long carried(int stock, int holder) {
        Stock s = findStock(stock);
        if (s == null || !isHolder(holder)) {
            return NONE;
        }
        return carriedOf(s, holder);
    }

    public boolean penalty(int above, int below) {
        if (!isFraction(above, below)) {
            return false;
        }
        penaltyAbove = above;
        penaltyBelow = below;
        return true;
    }

    public boolean into(int holder, int pool) {
        if (!isHolder(holder) || (pool != NONE && !isPool(pool))) {
            return false;
        }
        poolOf[holder] = pool;
        return true;
    }

    public long pooled(int stock, int pool) {
        Stock s = findStock(stock);
        if (s == null || !isPool(pool)) {
            return NONE;
        }
        long sum = 0;
        for (int h = 0; h < holderCount; h++) {
            if (poolOf[h] == pool) {
                sum += leftInAll(s, h);
            }
        }
        return sum;
    }

    public boolean owns(int owner, int other, int hundredths) {
        if (!isOwner(owner) || !isOwner(other) || !isWithin(hundredths, 0, HUNDRED)) {
            return false;
        }
        if (hundredths > 0 && holdOf(other, owner) > 0) {
            return false;
        }
        return owners.setPart(owner, other, hundredths);
    }

    public long hold(int owner, int other) {
        if (!isOwner(owner) || !isOwner(other)) {
            return NONE;
        }
        return holdOf(owner, other);
    }

    public boolean cap(int stock, int hundredths) {
        Stock s = findStock(stock);
        if (s == null || !isWithin(hundredths, 0, HUNDRED)) {
            return false;
        }
        s.capHundredths = hundredths;
        return true;
    }

    public boolean capped(int owner) {
        if (!isOwner(owner)) {
            return false;
        }
        owners.findHolds(owner);
        for (int i = 0; i < stockCount; i++) {
            Stock s = findStock(i);
            if (s != null && isAboveCap(s)) {
                return true;
            }
        }
        return false;
    }

    public int choke(int holder) {
        if (!isHolder(holder)) {
            return NONE;
        }
        Stock choking = null;
        for (int i = 0; i < stockCount; i++) {
            Stock s = findStock(i);
            // A share above 0 says that the stock is parted, too.
            if (s != null && s.shares[holder] > 0 && (choking == null || isScarcer(s, choking, holder))) {
                choking = s;
            }
        }
        return choking == null ? NONE : choking.number;
    }

    public long closes(int stock, long rate) {
        Stock s = findStock(stock);
        if (s == null || !s.parted || !isWithin(rate, 1, MOST_GRAMS)) {
            return NONE;
        }
        long sum = 0;
        for (int h = 0; h < holderCount; h++) {
            sum += Math.max(0, leftInAll(s, h));
        }
        return dividedUp(sum, rate);
    }

    public boolean seen(int stock, long kept, long thrown) {
        Stock s = findStock(stock);
        if (s == null || !isWithin(kept, 0, MOST_SEEN) || !isWithin(thrown, 0, MOST_SEEN)) {
            return false;
        }
        if (s.keptSeen + kept > MOST_SEEN || s.thrownSeen + thrown > MOST_SEEN) {
            return false;
        }
        s.keptSeen += kept;
        s.thrownSeen += thrown;
        return true;
    }

    public long discard(int stock) {
        Stock s = findStock(stock);
        if (s == null || s.keptSeen < 1) {
            return NONE;
        }
        return landings.ofStock(stock) * s.thrownSeen / s.keptSeen;
    }

    public long told(int stock, int what) {
        Stock s = findStock(stock);
        if (s == null) {
            return NONE;
        }
        switch (what) {
            case 0:
                return s.allowed;
            case 1:
                return s.setAside;
            case 2:
                return s.parted ? 1 : 0;
            case 3:
                return s.allShares();
            case 4:
                return landings.ofStock(stock);
            case 5:
                return s.capHundredths;
            case 6:
                return s.followed;
            default:
                return NONE;
        }
    }

    public boolean sums(int stock) {
        Stock s = findStock(stock);
        return s != null && s.parted && s.allShares() == s.dueShares;
    }

    private static boolean isWithin(long x, long least, long most) {
        return x >= least && x <= most;
    }

    private static boolean isFraction(int above, int below) {
        return isWithin(above, 1, MOST_OF_FRACTION) && isWithin(below, 1, MOST_OF_FRACTION);
    }

    /** Rounded up; x is at least 0. */
    private static long dividedUp(long x, long by) {
        return by < 1 ? 0 : (x + by - 1) / by;
    }

    private static boolean isOwner(int owner) {
        return owner >= 0 && owner < OWNERS;
    }

    private static boolean isPool(int pool) {
        return pool >= 0 && pool < POOLS;
    }

    private boolean isHolder(int holder) {
        return holder >= 0 && holder < holderCount;
    }

    private Stock findStock(int number) {
        return number >= 0 && number < stockCount ? stocks[number] : null;
    }

    private long leftOn(Stock s, int holder, int on) {
        return s.shares[holder] - landings.toldUpTo(s.number, holder, on);
    }

    private long leftInAll(Stock s, int holder) {
        // No landing is told later than the last day.
        return leftOn(s, holder, LAST_DAY);
    }

    private long overOf(Stock s, int holder) {
        return Math.max(0, -leftInAll(s, holder));
    }

    private long carriedOf(Stock s, int holder) {
        long over = overOf(s, holder);
        if (over > 0) {
            return -dividedUp(over * penaltyAbove, penaltyBelow);
        }
        return Math.min(leftInAll(s, holder), s.shares[holder] / 10);
    }

    private void carryOver(Stock before, Stock s) {
        for (int h = 0; h < holderCount; h++) {
            s.carryIn(h, carriedOf(before, h));
        }
    }

    private long holdOf(int owner, int other) {
        owners.findHolds(owner);
        return owners.found(other);
    }

    /**
     * For the owner whose holds were found last. Weights times holds do not fit a long together, so the upper and
     * the lower nine digits of the holds are summed apart.
     */
    private boolean isAboveCap(Stock s) {
        long upper = 0;
        long lower = 0;
        for (int h = 0; h < holderCount; h++) {
            long held = owners.found(ownerOf[h]);
            upper += s.weights[h] * (held / HALF_DIGITS);
            lower += s.weights[h] * (held % HALF_DIGITS);
        }
        upper += lower / HALF_DIGITS;
        lower = lower % HALF_DIGITS;
        long limit = s.allWeights() * s.capHundredths * (HALF_DIGITS / HUNDRED);
        return upper > limit || (upper == limit && lower > 0);
    }

    /**
     * Whether LEFT over SHARE is less in one stock than in the other; without a share above 0 in both it is not.
     * Whole parts and rests are compared apart: what is over times a share does not fit a long.
     */
    private boolean isScarcer(Stock s, Stock than, int holder) {
        long share = s.shares[holder];
        long otherShare = than.shares[holder];
        if (share < 1 || otherShare < 1) {
            return false;
        }
        long left = leftInAll(s, holder);
        long otherLeft = leftInAll(than, holder);
        long times = Math.floorDiv(left, share);
        long otherTimes = Math.floorDiv(otherLeft, otherShare);
        if (times != otherTimes) {
            return times < otherTimes;
        }
        return Math.floorMod(left, share) * otherShare < Math.floorMod(otherLeft, otherShare) * share;
    }

    /** A stock with what each holder weighs and has in it. Numbers of no holder weigh 0 and have 0. */
    private static final class Stock {
        final int number;
        final long allowed;
        final long[] weights;
        final long[] shares;
        long setAside;
        boolean parted;
        int followed;
        int capHundredths;
        long keptSeen;
        long thrownSeen;
        /** What all shares should come to: kept apart from the shares, so that sums has something to compare. */
        long dueShares;

        Stock(int number, long allowed) {
            this.number = number;
            this.allowed = allowed;
            weights = new long[MOST_HOLDERS];
            shares = new long[MOST_HOLDERS];
            followed = NONE;
            capHundredths = HUNDRED;
        }

        long allWeights() {
            return sumOf(weights);
        }

        long allShares() {
            return sumOf(shares);
        }

        private static long sumOf(long[] row) {
            long sum = 0;
            for (int h = 0; h < row.length; h++) {
                sum += row[h];
            }
            return sum;
        }

        int countShares() {
            int count = 0;
            for (int h = 0; h < shares.length; h++) {
                if (shares[h] > 0) {
                    count++;
                }
            }
            return count;
        }

        /** Parts what is not set aside by weights; false when all weights are 0. */
        boolean shareOut() {
            long total = allWeights();
            if (total < 1) {
                return false;
            }
            long whole = allowed - setAside;
            long spare = whole;
            for (int h = 0; h < shares.length; h++) {
                shares[h] = whole * weights[h] / total;
                spare -= shares[h];
            }
            // What is spare is less than the number of rests above 0, so nobody gets a second gram.
            for (int h = 0; h < shares.length; h++) {
                if (rankByRest(h, whole, total) < spare) {
                    shares[h]++;
                }
            }
            dueShares = whole;
            return true;
        }

        /** How many holders come before this one when the last grams are given out. */
        private int rankByRest(int holder, long whole, long total) {
            long rest = restOf(holder, whole, total);
            int rank = 0;
            for (int h = 0; h < weights.length; h++) {
                long other = restOf(h, whole, total);
                if (other > rest || (other == rest && h < holder)) {
                    rank++;
                }
            }
            return rank;
        }

        private long restOf(int holder, long whole, long total) {
            return total < 1 ? 0 : whole * weights[holder] % total;
        }

        void carryIn(int holder, long carry) {
            long share = Math.max(0, shares[holder] + carry);
            dueShares += share - shares[holder];
            shares[holder] = share;
        }

        void swapShare(int holder, long change) {
            shares[holder] += change;
            dueShares += change;
        }
    }

    /** All landings in the order in which they came. The day of the catch is only checked: no answer asks for it. */
    private static final class Landings {
        private final int[] stockNumbers;
        private final int[] holderNumbers;
        private final long[] caught;
        private final int[] toldDays;
        private int count;

        Landings() {
            stockNumbers = new int[MOST_LANDINGS];
            holderNumbers = new int[MOST_LANDINGS];
            caught = new long[MOST_LANDINGS];
            toldDays = new int[MOST_LANDINGS];
        }

        /** False when there is no room for one more. */
        boolean add(int stock, int holder, long grams, int toldDay) {
            if (count >= MOST_LANDINGS) {
                return false;
            }
            stockNumbers[count] = stock;
            holderNumbers[count] = holder;
            caught[count] = grams;
            toldDays[count] = toldDay;
            count++;
            return true;
        }

        long toldUpTo(int stock, int holder, int day) {
            long sum = 0;
            for (int i = 0; i < count; i++) {
                if (stockNumbers[i] == stock && holderNumbers[i] == holder && toldDays[i] <= day) {
                    sum += caught[i];
                }
            }
            return sum;
        }

        long ofStock(int stock) {
            long sum = 0;
            for (int i = 0; i < count; i++) {
                if (stockNumbers[i] == stock) {
                    sum += caught[i];
                }
            }
            return sum;
        }
    }

    /** Who owns how much of whom. No way through the owners comes back to where it began. */
    private static final class Owners {
        /** Hundredths, of owner i in owner j at i * OWNERS + j. */
        private final int[] parts;
        private final long[] ways;
        private final long[] longerWays;
        private final long[] holds;

        Owners() {
            parts = new int[OWNERS * OWNERS];
            ways = new long[OWNERS];
            longerWays = new long[OWNERS];
            holds = new long[OWNERS];
        }

        /** Sets an own part unless all own parts of the other one would be more than 100. */
        boolean setPart(int owner, int other, int hundredths) {
            int sum = hundredths;
            for (int i = 0; i < OWNERS; i++) {
                if (i != owner) {
                    sum += parts[i * OWNERS + other];
                }
            }
            if (sum > HUNDRED) {
                return false;
            }
            parts[owner * OWNERS + other] = hundredths;
            return true;
        }

        /** Sums the products of hundredths way by way, shorter ways first: a way has at most OWNERS - 1 links. */
        void findHolds(int owner) {
            for (int i = 0; i < OWNERS; i++) {
                ways[i] = i == owner ? WHOLE_HOLD : 0;
                holds[i] = ways[i];
            }
            for (int links = 1; links < OWNERS; links++) {
                lengthenWays();
                for (int i = 0; i < OWNERS; i++) {
                    holds[i] += ways[i];
                }
            }
        }

        /** His hold of another one, of the owner for whom holds were found last. */
        long found(int other) {
            return isOwner(other) ? holds[other] : 0;
        }

        private void lengthenWays() {
            for (int to = 0; to < OWNERS; to++) {
                long sum = 0;
                for (int from = 0; from < OWNERS; from++) {
                    // Exact: WHOLE_HOLD has a factor of 100 for each link that a way can have.
                    sum += ways[from] / HUNDRED * parts[from * OWNERS + to];
                }
                longerWays[to] = sum;
            }
            System.arraycopy(longerWays, 0, ways, 0, OWNERS);
        }
    }
}
