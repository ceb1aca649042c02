import java.util.ArrayList;
import java.util.Arrays;
import java.util.List;
import java.util.function.Consumer;
import java.util.function.LongConsumer;
import java.util.function.Predicate;
import java.util.function.ToLongFunction;

/**
 * Tries calls that are refused. Two new objects are brought into the same state, the call is made on one of them, and
 * both must answer the same to all that follows. An object is good for 512 calls, so there are several probes, each
 * with two new objects; a state is made by 230 calls at most and a probe has 280 at most.
 */
final class Trial {
    private static final int MOST_PROBED = 280;

    /** A call with the number of a stock or a holder. */
    interface Numbered {
        long on(CatchShares x, int number);
    }

    private interface Probe {
        void look(CatchShares x, LongConsumer answers);
    }

    private static final List<Probe> PROBES = List.of(Trial::lookAtStocks, Trial::lookAtShares, Trial::lookAtDays,
        Trial::lookAtCarried, Trial::lookAtOwners, Trial::lookAtWeights, Trial::fillAndPart, Trial::poolAll,
        Trial::landAndSee, Trial::fillLandings);

    private final Consumer<CatchShares> state;
    private final List<long[]> untouched = new ArrayList<>();

    Trial(Consumer<CatchShares> state) {
        this.state = state;
        for (Probe probe : PROBES) {
            untouched.add(answers(probe, made()));
        }
    }

    /** An object with something of everything: stocks 0 to 3 (0 and 1 parted, 2 follows 0), holders 0 to 2. */
    static Trial busy() {
        return new Trial(Trial::makeBusy);
    }

    private static void makeBusy(CatchShares x) {
        for (long allowed : new long[] {1000, 600, 500, 400}) {
            x.stock(allowed);
        }
        for (int owner = 0; owner < 3; owner++) {
            x.holder(owner);
        }
        Due.part(x, 0, 5, 3, 2);
        Due.part(x, 1, 1, 2, 3);
        Due.weigh(x, 2, 7, 2, 4);
        x.aside(2, 50);
        x.follows(2, 0);
        x.penalty(3, 2);
        x.land(0, 0, 100, 3, 5);
        x.land(0, 1, 401, 2, 9);
        x.land(1, 2, 299, 0, 99999);
        x.into(0, 1);
        x.into(1, 1);
        x.into(2, 3);
        x.owns(0, 1, 50);
        x.owns(1, 2, 30);
        x.cap(0, 60);
        x.cap(2, 40);
        x.seen(0, 10, 7);
        x.seen(1, 3, 999999);
    }

    /** An object with all stocks (0 and 1 parted, 2 with weights) and all holders. */
    private static void makeFull(CatchShares x) {
        for (int s = 0; s < 8; s++) {
            x.stock(120);
        }
        for (int h = 0; h < 12; h++) {
            x.holder(h % 10);
        }
        Due.part(x, 0, 1, 1, 1, 1, 1, 1, 1, 1, 1, 1, 1, 1);
        Due.part(x, 1, 1, 1, 1, 1, 1, 1, 1, 1, 1, 1, 1, 1);
        Due.weigh(x, 2, 1, 1, 1, 1, 1, 1, 1, 1, 1, 1, 1, 1);
    }

    /** The call answers this for stocks that there are not: none are there yet, or some, or all. */
    static void noSuchStock(long refused, Numbered call) {
        Trial none = new Trial(x -> {
            x.holder(0);
            x.holder(1);
        });
        noSuchNumber(none, 0, refused, call);
        noSuchNumber(busy(), 4, refused, call);
        noSuchNumber(new Trial(Trial::makeFull), 8, refused, call);
    }

    /** The same for holders; the first two stocks are parted where there are holders, the third is not. */
    static void noSuchHolder(long refused, Numbered call) {
        Trial none = new Trial(x -> {
            x.stock(100);
            x.stock(100);
            x.stock(100);
        });
        noSuchNumber(none, 0, refused, call);
        noSuchNumber(busy(), 3, refused, call);
        noSuchNumber(new Trial(Trial::makeFull), 12, refused, call);
    }

    private static void noSuchNumber(Trial state, int count, long refused, Numbered call) {
        for (int number : noneOf(count)) {
            state.answers("number " + number + " of " + count, x -> call.on(x, number), refused);
        }
    }

    /** Numbers that are none of 0 .. count - 1; a type too narrow would take some of them for 0. */
    static int[] noneOf(int count) {
        return new int[] {-1, count, Integer.MIN_VALUE, Integer.MAX_VALUE, 256, 65536};
    }

    /** Amounts that are not least .. most; an int would take some of them for amounts that are. */
    static long[] outside(long least, long most) {
        return new long[] {least - 1, most + 1, Long.MIN_VALUE, Long.MAX_VALUE, (1L << 32) + least, (1L << 32) + most,
            -(1L << 32) + most};
    }

    /** The same of ints. */
    static int[] outsideInts(int least, int most) {
        return new int[] {least - 1, most + 1, Integer.MIN_VALUE, Integer.MAX_VALUE};
    }

    void no(String call, Predicate<CatchShares> refused) {
        answers(call, x -> bit(refused.test(x)), 0);
    }

    void none(String call, ToLongFunction<CatchShares> refused) {
        answers(call, refused, -1);
    }

    /** The call answers this and leaves no trace. */
    void answers(String call, ToLongFunction<CatchShares> refused, long want) {
        for (int i = 0; i < PROBES.size(); i++) {
            CatchShares x = made();
            Due.is(call, refused.applyAsLong(x), want);
            long[] got = answers(PROBES.get(i), x);
            Due.yes(call + " changes nothing (probe " + i + ")", Arrays.equals(got, untouched.get(i)));
        }
    }

    private CatchShares made() {
        CatchShares x = new CatchShares();
        state.accept(x);
        return x;
    }

    private static long[] answers(Probe probe, CatchShares x) {
        List<Long> all = new ArrayList<>();
        probe.look(x, all::add);
        if (all.size() > MOST_PROBED) {
            throw new IllegalStateException("a probe of " + all.size() + " calls");
        }
        return all.stream().mapToLong(Long::longValue).toArray();
    }

    static long bit(boolean answer) {
        return answer ? 1 : 0;
    }

    private static void lookAtStocks(CatchShares x, LongConsumer answers) {
        for (int s = 0; s < 8; s++) {
            for (int what = 0; what < 7; what++) {
                answers.accept(x.told(s, what));
            }
            for (int pool = 0; pool < 4; pool++) {
                answers.accept(x.pooled(s, pool));
            }
            answers.accept(bit(x.sums(s)));
            answers.accept(x.discard(s));
            answers.accept(x.closes(s, 1));
        }
        for (int h = 0; h < 12; h++) {
            answers.accept(x.choke(h));
        }
    }

    private static void lookAtShares(CatchShares x, LongConsumer answers) {
        for (int s = 0; s < 8; s++) {
            for (int h = 0; h < 12; h++) {
                answers.accept(x.given(s, h));
                answers.accept(x.left(s, h, 99999));
            }
        }
    }

    private static void lookAtDays(CatchShares x, LongConsumer answers) {
        for (int s = 0; s < 8; s++) {
            for (int h = 0; h < 12; h++) {
                answers.accept(x.left(s, h, 0));
                answers.accept(x.left(s, h, 5));
            }
        }
    }

    private static void lookAtCarried(CatchShares x, LongConsumer answers) {
        for (int s = 0; s < 8; s++) {
            for (int h = 0; h < 12; h++) {
                answers.accept(x.over(s, h));
                answers.accept(x.carried(s, h));
            }
        }
    }

    private static void lookAtOwners(CatchShares x, LongConsumer answers) {
        for (int owner = 0; owner < 10; owner++) {
            for (int other = 0; other < 10; other++) {
                answers.accept(x.hold(owner, other));
            }
            answers.accept(bit(x.capped(owner)));
        }
        for (int s = 0; s < 8; s++) {
            answers.accept(bit(x.cap(s, 0)));
        }
        for (int owner = 0; owner < 10; owner++) {
            answers.accept(bit(x.capped(owner)));
        }
    }

    /** Weights of a stock that is parted are seen by caps alone. */
    private static void lookAtWeights(CatchShares x, LongConsumer answers) {
        for (int s = 0; s < 8; s++) {
            answers.accept(bit(x.cap(s, 100)));
        }
        for (int s = 0; s < 8; s++) {
            for (int cap = 5; cap < 70; cap += 10) {
                answers.accept(bit(x.cap(s, cap)));
                for (int owner = 0; owner < 3; owner++) {
                    answers.accept(bit(x.capped(owner)));
                }
            }
            answers.accept(bit(x.cap(s, 100)));
        }
    }

    /** How many stocks and holders there is room for, and what weights, asides and followings come to. */
    private static void fillAndPart(CatchShares x, LongConsumer answers) {
        for (int s = 0; s < 8; s++) {
            answers.accept(x.stock(7));
        }
        for (int h = 0; h < 12; h++) {
            answers.accept(x.holder(5));
        }
        for (int s = 0; s < 8; s++) {
            answers.accept(x.part(s));
            for (int h = 0; h < 12; h++) {
                answers.accept(x.given(s, h));
            }
            answers.accept(x.told(s, 3));
        }
    }

    /** Who is in which pool, seen in shares that are all above 0 if the stock was not parted yet. */
    private static void poolAll(CatchShares x, LongConsumer answers) {
        for (int s = 0; s < 8; s++) {
            for (int h = 0; h < 12; h++) {
                answers.accept(bit(x.weight(s, h, 1L << h)));
            }
            answers.accept(x.part(s));
            for (int pool = 0; pool < 4; pool++) {
                answers.accept(x.pooled(s, pool));
            }
        }
    }

    /** What was seen, and the penalty. */
    private static void landAndSee(CatchShares x, LongConsumer answers) {
        for (int s = 0; s < 8; s++) {
            answers.accept(bit(x.weight(s, 0, 1)));
            answers.accept(x.part(s));
            answers.accept(bit(x.land(s, 0, 1000000000L, 7, 7)));
            answers.accept(x.carried(s, 0));
            answers.accept(x.discard(s));
            answers.accept(bit(x.seen(s, 1, 0)));
            answers.accept(x.discard(s));
            answers.accept(bit(x.seen(s, 0, 1)));
            answers.accept(x.discard(s));
        }
    }

    /** How many landings there is room for. */
    private static void fillLandings(CatchShares x, LongConsumer answers) {
        answers.accept(x.holder(5));
        answers.accept(bit(x.weight(0, 0, 1)));
        answers.accept(x.part(0));
        for (int i = 0; i < 201; i++) {
            answers.accept(bit(x.land(0, 0, 1, 7, 7)));
        }
        answers.accept(x.told(0, 4));
    }
}
