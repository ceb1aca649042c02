/** Counts calls whose answer is not the one that is due, and tells them with the sentence that is tested. */
final class Due {
    private static int calls = 0;
    private static int wrong = 0;
    private static String sentence = "";

    private Due() {
    }

    /** One test: the number of the promise (or "Terms") with the words of the document that it holds to. */
    static void test(String words, Runnable body) {
        int before = calls;
        sentence = words;
        body.run();
        if (calls == before) {
            wrong++;
            System.out.println(sentence + ": nothing was called");
        }
        sentence = "";
    }

    static void is(String call, long got, long want) {
        calls++;
        if (got != want) {
            wrong++;
            System.out.println(sentence + ": " + call + " answered " + got + ", due is " + want);
        }
    }

    static void none(String call, long got) {
        is(call, got, -1);
    }

    static void yes(String call, boolean got) {
        is(call, got ? 1 : 0, 1);
    }

    static void no(String call, boolean got) {
        is(call, got ? 1 : 0, 0);
    }

    static void end() {
        System.out.println(calls + " answers, " + wrong + " not as due");
        if (wrong != 0 || calls == 0) {
            System.exit(1);
        }
    }

    /** An object with holders 0 .., each of the owner of his number, and stocks 0 .., not parted. */
    static CatchShares made(int holders, long... allowed) {
        CatchShares x = new CatchShares();
        for (int i = 0; i < allowed.length; i++) {
            is("stock", x.stock(allowed[i]), i);
        }
        for (int i = 0; i < holders; i++) {
            is("holder", x.holder(i % 10), i);
        }
        return x;
    }

    /** Gives weights to holders 0 .. */
    static void weigh(CatchShares x, int stock, long... weights) {
        for (int i = 0; i < weights.length; i++) {
            yes("weight", x.weight(stock, i, weights[i]));
        }
    }

    /** Gives weights to holders 0 .. and parts the stock. */
    static void part(CatchShares x, int stock, long... weights) {
        weigh(x, stock, weights);
        yes("part " + stock, x.part(stock) >= 0);
    }

    /** Compares the shares of holders 0 .. */
    static void shares(String run, CatchShares x, int stock, long... want) {
        for (int i = 0; i < want.length; i++) {
            is(run + ": given(" + stock + ", " + i + ")", x.given(stock, i), want[i]);
        }
    }
}
