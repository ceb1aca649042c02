import java.math.BigInteger;
import java.util.ArrayList;
import java.util.Comparator;
import java.util.List;
import java.util.Random;

/**
 * Runs of 512 calls from a fixed seed, each answer against a model that keeps plain lists, looks through all of them
 * at every call and reckons with numbers of any size.
 */
public final class ModelTest {
    private static final int RUNS = 1500;
    private static final int CALLS = 512;
    private static final int METHODS = 26;

    private final Random random;
    private final CatchShares real = new CatchShares();
    private final Model model = new Model();
    /** How likely an argument is one that is refused, and how large amounts are: each run has its own. */
    private final int wildness;
    private final long size;

    private ModelTest(long seed) {
        random = new Random(seed);
        wildness = random.nextInt(4) == 0 ? 10 : 80;
        long[] sizes = {6, 40, 1000, 1000000, 1000000000};
        size = sizes[random.nextInt(sizes.length)];
    }

    public static void main(String[] args) {
        for (int run = 0; run < RUNS; run++) {
            ModelTest test = new ModelTest(run);
            for (int call = 0; call < CALLS; call++) {
                test.step(run, call);
            }
        }
        Due.end();
    }

    private void step(int run, int call) {
        int method = call < 40 ? random.nextInt(3) : random.nextInt(METHODS);
        long[] a = arguments(method);
        String text = "run " + run + ", call " + call + ": method " + method + java.util.Arrays.toString(a);
        long want = model.answer(method, a);
        Due.is(text, answer(method, a), want);
    }

    private long[] arguments(int method) {
        switch (method) {
            case 0: return new long[] {amount(0, 1000000000)};
            case 1: return new long[] {number(10)};
            case 2: return new long[] {stock(), holder(), random.nextBoolean() ? random.nextInt(5) : amount(0, 1000000)};
            case 3: return new long[] {stock(), amount(0, size)};
            case 4: return new long[] {stock(), stock()};
            case 5: return new long[] {stock()};
            case 6: return new long[] {stock(), holder()};
            case 7: return landing();
            case 8: return new long[] {stock(), holder(), day()};
            case 9: return new long[] {stock(), holder(), holder(), amount(1, 1000000000)};
            case 10: return new long[] {stock(), stock(), fraction(), fraction(), holder(), amount(1, 1000000000)};
            case 11: case 12: return new long[] {stock(), holder()};
            case 13: return new long[] {fraction(), fraction()};
            case 14: return new long[] {holder(), random.nextInt(6) == 0 ? -1 : number(4)};
            case 15: return new long[] {stock(), number(4)};
            case 16: return new long[] {number(10), number(10), random.nextInt(4) == 0 ? 0 : amount(0, 100)};
            case 17: return new long[] {number(10), number(10)};
            case 18: return new long[] {stock(), number(101)};
            case 19: return new long[] {number(10)};
            case 20: return new long[] {holder()};
            case 21: return new long[] {stock(), amount(1, 1000000000)};
            case 22: return new long[] {stock(), amount(0, 1000000) / 8, amount(0, 1000000) / 8};
            case 23: return new long[] {stock()};
            case 24: return new long[] {stock(), number(7)};
            default: return new long[] {stock()};
        }
    }

    private long[] landing() {
        long day = day();
        long told = wild() ? day() : Math.min(99999, day + random.nextInt(5));
        return new long[] {stock(), holder(), amount(1, 1000000000), day, told};
    }

    private boolean wild() {
        return random.nextInt(wildness) == 0;
    }

    private long number(int count) {
        if (wild()) {
            int[] others = {-2, -1, count, count + 1, Integer.MAX_VALUE, Integer.MIN_VALUE};
            return others[random.nextInt(others.length)];
        }
        return random.nextInt(count);
    }

    private long stock() {
        return number(Math.max(1, model.stocks.size()));
    }

    private long holder() {
        return number(Math.max(1, model.holders.size()));
    }

    private long day() {
        if (wild()) {
            int[] others = {-1, 100000, 99999, 0, Integer.MAX_VALUE, Integer.MIN_VALUE};
            return others[random.nextInt(others.length)];
        }
        return random.nextInt(30);
    }

    private long fraction() {
        if (wild()) {
            long[] others = {0, -1, 1001, 1000, 999, Integer.MAX_VALUE};
            return others[random.nextInt(others.length)];
        }
        return 1 + random.nextInt(random.nextBoolean() ? 3 : 1000);
    }

    private long amount(long least, long most) {
        if (wild()) {
            long[] others = {least - 1, least, most, most + 1, -1};
            return others[random.nextInt(others.length)];
        }
        long bound = Math.min(most - least + 1, random.nextBoolean() ? size : size / 4 + 1);
        return least + (long) (random.nextDouble() * bound);
    }

    private static long bit(boolean answer) {
        return answer ? 1 : 0;
    }

    private long answer(int method, long[] a) {
        CatchShares x = real;
        int i = (int) a[0];
        int j = a.length > 1 ? (int) a[1] : 0;
        int k = a.length > 2 ? (int) a[2] : 0;
        switch (method) {
            case 0: return x.stock(a[0]);
            case 1: return x.holder(i);
            case 2: return bit(x.weight(i, j, a[2]));
            case 3: return bit(x.aside(i, a[1]));
            case 4: return bit(x.follows(i, j));
            case 5: return x.part(i);
            case 6: return x.given(i, j);
            case 7: return bit(x.land(i, j, a[2], (int) a[3], (int) a[4]));
            case 8: return x.left(i, j, k);
            case 9: return x.transfer(i, j, k, a[3]);
            case 10: return x.swap(i, j, k, (int) a[3], (int) a[4], a[5]);
            case 11: return x.over(i, j);
            case 12: return x.carried(i, j);
            case 13: return bit(x.penalty(i, j));
            case 14: return bit(x.into(i, j));
            case 15: return x.pooled(i, j);
            case 16: return bit(x.owns(i, j, k));
            case 17: return x.hold(i, j);
            case 18: return bit(x.cap(i, j));
            case 19: return bit(x.capped(i));
            case 20: return x.choke(i);
            case 21: return x.closes(i, a[1]);
            case 22: return bit(x.seen(i, a[1], a[2]));
            case 23: return x.discard(i);
            case 24: return x.told(i, j);
            default: return bit(x.sums(i));
        }
    }

    private record Landing(long stock, long holder, long grams, long told) {
    }

    private static final class ModelStock {
        final BigInteger[] weights = new BigInteger[12];
        final BigInteger[] shares = new BigInteger[12];
        final List<long[]> sights = new ArrayList<>();
        long allowed;
        long aside = 0;
        long cap = 100;
        long follows = -1;
        boolean parted = false;

        ModelStock(long allowed) {
            this.allowed = allowed;
            java.util.Arrays.fill(weights, BigInteger.ZERO);
            java.util.Arrays.fill(shares, BigInteger.ZERO);
        }

        BigInteger sum(BigInteger[] row) {
            return java.util.Arrays.stream(row).reduce(BigInteger.ZERO, BigInteger::add);
        }

        long sightSum(int which) {
            return sights.stream().mapToLong(s -> s[which]).sum();
        }
    }

    /** Each holder is an array of his owner and his pool. */
    private static final class Model {
        final List<ModelStock> stocks = new ArrayList<>();
        final List<long[]> holders = new ArrayList<>();
        final List<Landing> landings = new ArrayList<>();
        final long[][] parts = new long[10][10];
        long above = 1;
        long below = 1;

        private static boolean in(long x, long least, long most) {
            return least <= x && x <= most;
        }

        private static BigInteger big(long x) {
            return BigInteger.valueOf(x);
        }

        private boolean isStock(long i) {
            return in(i, 0, stocks.size() - 1);
        }

        private boolean isHolder(long i) {
            return in(i, 0, holders.size() - 1);
        }

        long answer(int method, long[] a) {
            switch (method) {
                case 0: return stock(a[0]);
                case 1: return holder(a[0]);
                case 13: return penalty(a[0], a[1]);
                case 14: return into(a[0], a[1]);
                case 16: return owns(a[0], a[1], a[2]);
                case 17: return in(a[0], 0, 9) && in(a[1], 0, 9) ? hold((int) a[0], (int) a[1]).longValueExact() : -1;
                case 19: return in(a[0], 0, 9) ? capped((int) a[0]) : 0;
                case 20: return isHolder(a[0]) ? choke((int) a[0]) : -1;
                default: break;
            }
            boolean yesOrNo = method == 2 || method == 3 || method == 4 || method == 7 || method == 18 || method == 22
                || method == 25;
            long refused = yesOrNo ? 0 : -1;
            if (!isStock(a[0])) {
                return refused;
            }
            int number = (int) a[0];
            ModelStock s = stocks.get(number);
            boolean ofHolder = method == 2 || method == 6 || method == 7 || method == 8 || method == 9 || method == 11
                || method == 12;
            if (ofHolder) {
                return isHolder(a[1]) ? answerOfHolder(method, s, number, (int) a[1], a) : refused;
            }
            return answerOfStock(method, s, number, a);
        }

        private long answerOfHolder(int method, ModelStock s, int number, int h, long[] a) {
            switch (method) {
                case 2:
                    if (s.parted || !in(a[2], 0, 1000000)) {
                        return 0;
                    }
                    s.weights[h] = big(a[2]);
                    return 1;
                case 6: return s.shares[h].longValueExact();
                case 7:
                    if (!s.parted || landings.size() >= 200 || !in(a[2], 1, 1000000000) || !in(a[3], 0, 99999)
                        || !in(a[4], a[3], 99999)) {
                        return 0;
                    }
                    landings.add(new Landing(number, h, a[2], a[4]));
                    return 1;
                case 8: return left(number, h, a[2]).longValueExact();
                case 9: return transfer(s, number, h, a[2], a[3]);
                case 11: return left(number, h, Long.MAX_VALUE).negate().max(BigInteger.ZERO).longValueExact();
                default: return carried(number, h).longValueExact();
            }
        }

        private long answerOfStock(int method, ModelStock s, int number, long[] a) {
            switch (method) {
                case 3:
                    if (s.parted || !in(a[1], 0, s.allowed)) {
                        return 0;
                    }
                    s.aside = a[1];
                    return 1;
                case 4:
                    if (!isStock(a[1]) || s.parted || !stocks.get((int) a[1]).parted || s.follows >= 0) {
                        return 0;
                    }
                    s.follows = a[1];
                    return 1;
                case 5: return part(s);
                case 10: return swap(s, a);
                case 15: return in(a[1], 0, 3) ? pooled(number, a[1]) : -1;
                case 18:
                    if (!in(a[1], 0, 100)) {
                        return 0;
                    }
                    s.cap = a[1];
                    return 1;
                case 21: return closes(s, number, a[1]);
                case 22: return seen(s, a[1], a[2]);
                case 23:
                    if (s.sightSum(0) == 0) {
                        return -1;
                    }
                    return landed(number).multiply(big(s.sightSum(1))).divide(big(s.sightSum(0))).longValueExact();
                case 24: return told(s, number, a[1]);
                default: return s.parted ? 1 : 0;
            }
        }

        private long stock(long allowed) {
            if (stocks.size() == 8 || !in(allowed, 0, 1000000000)) {
                return -1;
            }
            stocks.add(new ModelStock(allowed));
            return stocks.size() - 1;
        }

        private long holder(long owner) {
            if (holders.size() == 12 || !in(owner, 0, 9)) {
                return -1;
            }
            holders.add(new long[] {owner, -1});
            return holders.size() - 1;
        }

        private long penalty(long newAbove, long newBelow) {
            if (!in(newAbove, 1, 1000) || !in(newBelow, 1, 1000)) {
                return 0;
            }
            above = newAbove;
            below = newBelow;
            return 1;
        }

        private long into(long h, long pool) {
            if (!isHolder(h) || !in(pool, -1, 3)) {
                return 0;
            }
            holders.get((int) h)[1] = pool;
            return 1;
        }

        private long part(ModelStock s) {
            BigInteger total = s.sum(s.weights);
            if (s.parted || total.signum() == 0) {
                return -1;
            }
            BigInteger whole = big(s.allowed - s.aside);
            List<Integer> ranks = new ArrayList<>();
            for (int h = 0; h < 12; h++) {
                s.shares[h] = whole.multiply(s.weights[h]).divide(total);
                ranks.add(h);
            }
            Comparator<Integer> byRest = Comparator.comparing(h -> whole.multiply(s.weights[h]).mod(total));
            ranks.sort(byRest.reversed());
            int over = whole.subtract(s.sum(s.shares)).intValueExact();
            for (int i = 0; i < over; i++) {
                s.shares[ranks.get(i)] = s.shares[ranks.get(i)].add(BigInteger.ONE);
            }
            for (int h = 0; h < holders.size() && s.follows >= 0; h++) {
                s.shares[h] = s.shares[h].add(carried((int) s.follows, h)).max(BigInteger.ZERO);
            }
            s.parted = true;
            return java.util.Arrays.stream(s.shares).filter(x -> x.signum() > 0).count();
        }

        private BigInteger landed(int number) {
            return landings.stream().filter(l -> l.stock == number).map(l -> big(l.grams))
                .reduce(BigInteger.ZERO, BigInteger::add);
        }

        private BigInteger left(int number, int h, long on) {
            BigInteger told = landings.stream().filter(l -> l.stock == number && l.holder == h && l.told <= on)
                .map(l -> big(l.grams)).reduce(BigInteger.ZERO, BigInteger::add);
            return stocks.get(number).shares[h].subtract(told);
        }

        private BigInteger carried(int number, int h) {
            BigInteger left = left(number, h, Long.MAX_VALUE);
            if (left.signum() >= 0) {
                return left.min(stocks.get(number).shares[h].divide(BigInteger.TEN));
            }
            BigInteger[] debt = left.negate().multiply(big(above)).divideAndRemainder(big(below));
            return debt[0].add(big(debt[1].signum())).negate();
        }

        private long transfer(ModelStock s, int number, int h, long to, long grams) {
            if (!isHolder(to) || to == h || !s.parted || !in(grams, 1, 1000000000)) {
                return -1;
            }
            if (left(number, h, Long.MAX_VALUE).compareTo(big(grams)) < 0) {
                return 1;
            }
            s.shares[h] = s.shares[h].subtract(big(grams));
            s.shares[(int) to] = s.shares[(int) to].add(big(grams));
            return 0;
        }

        private long swap(ModelStock s, long[] a) {
            if (!isStock(a[1]) || !isHolder(a[4]) || a[0] == a[1] || !s.parted || !stocks.get((int) a[1]).parted
                || !in(a[2], 1, 1000) || !in(a[3], 1, 1000) || !in(a[5], 1, 1000000000)) {
                return -1;
            }
            int h = (int) a[4];
            if (left((int) a[0], h, Long.MAX_VALUE).compareTo(big(a[5])) < 0) {
                return 1;
            }
            ModelStock to = stocks.get((int) a[1]);
            BigInteger[] got = big(a[5]).multiply(big(a[2])).divideAndRemainder(big(a[3]));
            if (got[1].signum() != 0 || got[0].signum() == 0
                || to.sum(to.shares).add(got[0]).compareTo(big(2000000000)) > 0) {
                return 2;
            }
            s.shares[h] = s.shares[h].subtract(big(a[5]));
            to.shares[h] = to.shares[h].add(got[0]);
            return 0;
        }

        private long pooled(int number, long pool) {
            BigInteger sum = BigInteger.ZERO;
            for (int h = 0; h < holders.size(); h++) {
                if (holders.get(h)[1] == pool) {
                    sum = sum.add(left(number, h, Long.MAX_VALUE));
                }
            }
            return sum.longValueExact();
        }

        private boolean reaches(int from, int to) {
            if (from == to) {
                return true;
            }
            for (int i = 0; i < 10; i++) {
                if (parts[from][i] > 0 && reaches(i, to)) {
                    return true;
                }
            }
            return false;
        }

        private long owns(long owner, long other, long hundredths) {
            if (!in(owner, 0, 9) || !in(other, 0, 9) || !in(hundredths, 0, 100)) {
                return 0;
            }
            if (hundredths > 0 && reaches((int) other, (int) owner)) {
                return 0;
            }
            long was = parts[(int) owner][(int) other];
            parts[(int) owner][(int) other] = hundredths;
            long sum = 0;
            for (long[] row : parts) {
                sum += row[(int) other];
            }
            if (sum > 100) {
                parts[(int) owner][(int) other] = was;
                return 0;
            }
            return 1;
        }

        private BigInteger hold(int owner, int other) {
            return waysTo(owner, other, BigInteger.TEN.pow(18));
        }

        private BigInteger waysTo(int at, int other, BigInteger product) {
            if (at == other) {
                return product;
            }
            BigInteger sum = BigInteger.ZERO;
            for (int i = 0; i < 10; i++) {
                if (parts[at][i] > 0) {
                    sum = sum.add(waysTo(i, other, product.multiply(big(parts[at][i])).divide(big(100))));
                }
            }
            return sum;
        }

        private long capped(int owner) {
            for (ModelStock s : stocks) {
                BigInteger sum = BigInteger.ZERO;
                for (int h = 0; h < holders.size(); h++) {
                    sum = sum.add(s.weights[h].multiply(hold(owner, (int) holders.get(h)[0])));
                }
                BigInteger most = s.sum(s.weights).multiply(big(s.cap)).multiply(BigInteger.TEN.pow(18));
                if (sum.multiply(big(100)).compareTo(most) > 0) {
                    return 1;
                }
            }
            return 0;
        }

        private long choke(int h) {
            int least = -1;
            for (int i = 0; i < stocks.size(); i++) {
                if (!stocks.get(i).parted || stocks.get(i).shares[h].signum() <= 0) {
                    continue;
                }
                if (least < 0) {
                    least = i;
                    continue;
                }
                BigInteger mine = left(i, h, Long.MAX_VALUE).multiply(stocks.get(least).shares[h]);
                BigInteger other = left(least, h, Long.MAX_VALUE).multiply(stocks.get(i).shares[h]);
                least = mine.compareTo(other) < 0 ? i : least;
            }
            return least;
        }

        private long closes(ModelStock s, int number, long rate) {
            if (!s.parted || !in(rate, 1, 1000000000)) {
                return -1;
            }
            BigInteger sum = BigInteger.ZERO;
            for (int h = 0; h < holders.size(); h++) {
                sum = sum.add(left(number, h, Long.MAX_VALUE).max(BigInteger.ZERO));
            }
            BigInteger[] days = sum.divideAndRemainder(big(rate));
            return days[0].longValueExact() + days[1].signum();
        }

        private long seen(ModelStock s, long kept, long thrown) {
            if (!in(kept, 0, 1000000) || !in(thrown, 0, 1000000) || s.sightSum(0) + kept > 1000000
                || s.sightSum(1) + thrown > 1000000) {
                return 0;
            }
            s.sights.add(new long[] {kept, thrown});
            return 1;
        }

        private long told(ModelStock s, int number, long what) {
            if (!in(what, 0, 6)) {
                return -1;
            }
            long[] all = {s.allowed, s.aside, s.parted ? 1 : 0, s.sum(s.shares).longValueExact(),
                landed(number).longValueExact(), s.cap, s.follows};
            return all[(int) what];
        }
    }
}
