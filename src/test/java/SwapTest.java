/** Promises 7 (swap), 9 (paid), 10 (price), 11 (tick), 12 (liquidity), 13 (growth). */
public final class SwapTest {
    private static final Class<IndexOutOfBoundsException> INDEX = IndexOutOfBoundsException.class;
    private static final Class<IllegalArgumentException> ARGUMENT = IllegalArgumentException.class;
    private static final Class<IllegalStateException> STATE = IllegalStateException.class;
    private static final int[] OUT_OF_PAIRS = {-1, 2, Integer.MIN_VALUE, Integer.MAX_VALUE};
    private static final long LOWEST_ROOT = 1254299944L;
    private static final long HIGHEST_ROOT = 14706804614L;

    public static void main(String[] args) {
        promise7OneStepOfEachKind();
        promise7RootsAreTheLimits();
        promise7CrossesTicksBothWays();
        promise7StopsAtALimitThatIsSet();
        promise7FeesGoToThoseInRange();
        promise7TheWholeRestIsTheFee();
        promise7TheMostLiquidity();
        promise7JustEnoughReachesTheTarget();
        promise7RefusesIndices();
        promise7RefusesArguments();
        promise7RefusesWhoHasTooLittle();
        promise9PaidIsOfTheLatestDone();
        promise10Price();
        promise11Tick();
        promise12Liquidity();
        promise13Growth();
        Check.finish("SwapTest");
    }

    /** Owner 0 has lent 1000000 from end to end in both pools. */
    private static RangeExchange lent(int fee) {
        RangeExchange x = new RangeExchange(fee, fee);
        for (int token = 0; token < 3; token++) {
            x.give(0, token, 50000000);
            x.give(1, token, 40000000);
        }
        x.mint(0, 0, -40, 40, 1000000);
        x.mint(0, 1, -40, 40, 1000000);
        return x;
    }

    private static void oneStep(int fee, boolean down, int amount, long[] due) {
        for (int pool = 0; pool < 2; pool++) {
            RangeExchange x = lent(fee);
            int in = down ? pool : pool + 1;
            int out = down ? pool + 1 : pool;
            long heldIn = x.held(in);
            long heldOut = x.held(out);
            String what = "swap(1, " + pool + ", " + down + ", " + amount + ") with fee " + fee;
            Check.same(what, x.swap(1, pool, down, amount, down ? -40 : 40), due[0]);
            Check.same("paid in " + what, x.paid(), due[1]);
            Check.same("price after " + what, x.price(pool), due[2]);
            Check.same("growth after " + what, x.growth(pool, down ? 0 : 1), due[3]);
            Check.same("other growth after " + what, x.growth(pool, down ? 1 : 0), 0);
            Check.same("tick after " + what, x.tick(pool), down ? -1 : 0);
            Check.same("balance in after " + what, x.balance(1, in), 40000000 - due[1]);
            Check.same("balance out after " + what, x.balance(1, out), 40000000 + due[0]);
            Check.same("held in after " + what, x.held(in) - heldIn, due[1]);
            Check.same("held out after " + what, heldOut - x.held(out), due[0]);
            Check.same("other price after " + what, x.price(1 - pool), 4294967296L);
        }
    }

    private static void promise7OneStepOfEachKind() {
        oneStep(0, true, 1000, new long[] {999, 1000, 4290676620L, 0});
        oneStep(0, false, 1000, new long[] {999, 1000, 4299262263L, 0});
        oneStep(0, true, -1000, new long[] {1000, 1002, 4290672328L, 0});
        oneStep(0, false, -1000, new long[] {1000, 1002, 4299266563L, 0});
        oneStep(100, true, 1000, new long[] {899, 1000, 4291105302L, 429496});
        oneStep(100, false, 1000, new long[] {899, 1000, 4298832766L, 429496});
        oneStep(100, true, -1000, new long[] {1000, 1114, 4290672328L, 481036});
        oneStep(100, false, -1000, new long[] {1000, 1114, 4299266563L, 481036});
    }

    private static void promise7RootsAreTheLimits() {
        RangeExchange x = new RangeExchange(0, 0);
        for (int t = -1; t >= -40; t--) {
            Check.same("empty swap down to " + t, x.swap(0, 0, true, 1, t), 0);
            Check.same("ROOT(" + t + ")", x.price(0), Model.root(t).longValueExact());
            Check.same("tick at ROOT(" + t + ")", x.tick(0), t == -40 ? -41 : t);
        }
        for (int t = -39; t <= 40; t++) {
            Check.same("empty swap up to " + t, x.swap(0, 0, false, -1, t), 0);
            Check.same("ROOT(" + t + ") again", x.price(0), Model.root(t).longValueExact());
            Check.same("tick at ROOT(" + t + ") again", x.tick(0), t);
        }
        Check.same("ROOT(40)", x.price(0), HIGHEST_ROOT);
    }

    private static void promise7CrossesTicksBothWays() {
        RangeExchange x = lent(0);
        x.mint(0, 0, -4, -2, 2000000);
        x.mint(0, 0, -2, 3, 4000000);
        Check.same("liquidity at 0", x.liquidity(0), 5000000);
        x.swap(1, 0, true, 40000000, -1);
        Check.same("down to -1", x.liquidity(0), 5000000);
        x.swap(1, 0, true, 40000000, -3);
        Check.same("down over -2", x.liquidity(0), 3000000);
        Check.same("tick after that", x.tick(0), -3);
        x.swap(1, 0, true, 40000000, -5);
        Check.same("down over -4", x.liquidity(0), 1000000);
        x.swap(1, 0, false, 40000000, -4);
        Check.same("up to -4, which is set", x.liquidity(0), 3000000);
        Check.same("tick there", x.tick(0), -4);
        x.swap(1, 0, false, 40000000, 5);
        Check.same("up over -2 and 3", x.liquidity(0), 1000000);
        x.swap(1, 0, true, 40000000, 2);
        Check.same("down over 3", x.liquidity(0), 5000000);
    }

    private static void promise7StopsAtALimitThatIsSet() {
        RangeExchange x = lent(0);
        x.mint(0, 0, -3, 3, 1000000);
        x.swap(1, 0, true, 40000000, -3);
        Check.same("down to a limit that is set: it is crossed", x.liquidity(0), 1000000);
        Check.same("tick below it", x.tick(0), -4);
        Check.same("price at it", x.price(0), Model.root(-3).longValueExact());
        Check.refuses("down to where the price is", ARGUMENT, () -> x.swap(1, 0, true, 1, -3));
        Check.refuses("up to where the price is", ARGUMENT, () -> x.swap(1, 0, false, 1, -3));
        x.swap(1, 0, false, 1, 40);
        Check.same("up from there: it is crossed first", x.liquidity(0), 2000000);
        Check.same("tick above it", x.tick(0), -3);
    }

    private static void promise7FeesGoToThoseInRange() {
        RangeExchange x = lent(100);
        x.mint(0, 0, 1, 9, 3000000);
        x.mint(1, 0, -9, -1, 3000000);
        x.swap(1, 0, true, -1000, -40);
        x.burn(0, 0, 1, 9, 0);
        x.burn(1, 0, -9, -1, 0);
        x.burn(0, 0, -40, 40, 0);
        Check.same("owed to the one above", x.position(0, 0, 1, 9, 1), 0);
        Check.same("owed to the one below", x.position(1, 0, -9, -1, 1), 0);
        Check.same("owed to the one in range", x.position(0, 0, -40, 40, 1), 111);
        x.swap(1, 0, true, 40000000, -2);
        Check.same("paid down to -2", x.paid(), 176840);
        x.swap(1, 0, false, 20000000, 2);
        Check.same("paid up to 2", x.paid(), 342224);
        x.burn(0, 0, 1, 9, 0);
        x.burn(1, 0, -9, -1, 0);
        Check.same("near owed to the one below", x.position(1, 0, -9, -1, 1), 10742);
        Check.same("far owed to the one below", x.position(1, 0, -9, -1, 2), 9794);
        Check.same("near owed to the one above", x.position(0, 0, 1, 9, 1), 0);
        Check.same("far owed to the one above", x.position(0, 0, 1, 9, 2), 10742);
        x.mint(1, 0, -12, -9, 1000);
        x.burn(1, 0, -12, -9, 0);
        Check.same("a later one is owed nothing", x.position(1, 0, -12, -9, 1), 0);
    }

    private static void promise7TheWholeRestIsTheFee() {
        RangeExchange x = lent(1);
        Check.same("1 in, none of it useful", x.swap(1, 0, true, 1, -40), 0);
        Check.same("it is paid", x.paid(), 1);
        Check.same("the price stands", x.price(0), 4294967296L);
        Check.same("the tick stands", x.tick(0), 0);
        Check.same("it is a fee", x.growth(0, 0), 4294);
        x.swap(1, 0, true, 40000000, -3);
        x.mint(1, 0, -3, 3, 1000000);
        Check.same("tick at ROOT(-3), not set before", x.tick(0), -3);
        x.swap(1, 0, true, 1, -40);
        Check.same("a set tick is crossed even when the price stands", x.tick(0), -4);
        Check.same("with its liquidity", x.liquidity(0), 1000000);
        Check.same("price there", x.price(0), Model.root(-3).longValueExact());
        x.swap(1, 0, true, 1, -40);
        Check.same("and the tick stays when the price does", x.tick(0), -4);
    }

    private static void promise7TheMostLiquidity() {
        RangeExchange x = new RangeExchange(0, 0);
        x.give(0, 0, 50000000);
        x.give(0, 1, 50000000);
        x.give(1, 0, 50000000);
        x.give(1, 1, 50000000);
        for (int owner = 0; owner < 2; owner++) {
            for (int hi = 1; hi <= 2; hi++) {
                for (int lo = -3; lo <= -1; lo++) {
                    x.mint(owner, 0, lo, hi, 50000000);
                }
            }
        }
        Check.same("twelve times the most", x.liquidity(0), 600000000);
        Check.same("a swap through it", x.swap(1, 0, true, 1000000, -40), 998336);
        Check.same("its price", x.price(0), 4287820928L);
    }

    private static void justReached(int l, int amount, long got, long paid) {
        RangeExchange x = new RangeExchange(0, 0);
        x.give(0, 0, 1000);
        x.give(1, 1, 1000);
        x.mint(0, 0, 0, 1, l);
        String what = "swap of " + amount + " through " + l;
        Check.same(what, x.swap(1, 0, false, amount, 40), got);
        Check.same("paid in " + what, x.paid(), paid);
        Check.same("price after " + what, x.price(0), 4429185024L);
        Check.same("tick after " + what, x.tick(0), 1);
        Check.same("liquidity after " + what, x.liquidity(0), 0);
    }

    /** From ROOT(0) to ROOT(1) 3201 need 100.03 of far, up 101; 3210 have 97.27 of near, down 97. */
    private static void promise7JustEnoughReachesTheTarget() {
        justReached(3201, 101, 97, 101);
        justReached(3210, -97, 97, 101);
    }

    private static void promise7RefusesIndices() {
        RangeExchange x = lent(0);
        for (int owner : new int[] {-1, 4, Integer.MIN_VALUE, Integer.MAX_VALUE}) {
            Seen.refused(x, "swap by owner " + owner, INDEX, () -> x.swap(owner, 0, true, 1, -40));
        }
        for (int pool : OUT_OF_PAIRS) {
            Seen.refused(x, "swap in pool " + pool, INDEX, () -> x.swap(1, pool, true, 1, -40));
        }
        for (int limit : new int[] {-41, 41, Integer.MIN_VALUE, Integer.MAX_VALUE}) {
            Seen.refused(x, "swap down to " + limit, INDEX, () -> x.swap(1, 0, true, 1, limit));
            Seen.refused(x, "swap up to " + limit, INDEX, () -> x.swap(1, 0, false, 1, limit));
        }
        Seen.refused(x, "swap with a wrong limit and amount", INDEX, () -> x.swap(1, 0, true, 0, -41));
    }

    private static void promise7RefusesArguments() {
        RangeExchange x = lent(0);
        int[] wrong = {0, 100000001, -100000001, Integer.MIN_VALUE, Integer.MAX_VALUE};
        for (int amount : wrong) {
            Seen.refused(x, "swap of " + amount, ARGUMENT, () -> x.swap(1, 0, true, amount, -40));
        }
        Seen.refused(x, "swap down to the price", ARGUMENT, () -> x.swap(1, 0, true, 1, 0));
        Seen.refused(x, "swap down to above", ARGUMENT, () -> x.swap(1, 0, true, 1, 1));
        Seen.refused(x, "swap up to the price", ARGUMENT, () -> x.swap(1, 0, false, 1, 0));
        Seen.refused(x, "swap up to below", ARGUMENT, () -> x.swap(1, 0, false, 1, -1));
        Seen.refused(x, "a wrong limit before too little", ARGUMENT, () -> x.swap(2, 0, true, 5, 1));
        Check.holds("the most in", x.swap(1, 0, true, 100000000, -40) > 0);
        Check.holds("the most out", x.swap(1, 0, false, -100000000, 40) > 0);
        Check.same("at the upper end", x.price(0), HIGHEST_ROOT);
        Seen.refused(x, "up at the upper end", ARGUMENT, () -> x.swap(1, 0, false, 1, 40));
        x.swap(1, 0, true, 100000000, -40);
        Check.same("at the lower end", x.price(0), LOWEST_ROOT);
        Seen.refused(x, "down at the lower end", ARGUMENT, () -> x.swap(1, 0, true, 1, -40));
    }

    private static void promise7RefusesWhoHasTooLittle() {
        RangeExchange x = lent(100);
        x.mint(0, 0, -5, 5, 1000000);
        x.give(2, 0, 999);
        Seen.refused(x, "exact in with 1 too little", STATE, () -> x.swap(2, 0, true, 1000, -40));
        Seen.refused(x, "through many ticks", STATE, () -> x.swap(2, 0, true, 1000000, -40));
        Seen.refused(x, "exact out with too little", STATE, () -> x.swap(2, 0, true, -5000, -40));
        Seen.refused(x, "the other way", STATE, () -> x.swap(2, 0, false, 1000000, 40));
        x.burn(0, 0, -5, 5, 0);
        Check.same("no fee of a refused swap is owed", x.position(0, 0, -5, 5, 1), 0);
        Check.same("no far fee either", x.position(0, 0, -5, 5, 2), 0);
        x.give(2, 0, 1);
        Check.same("with just enough", x.swap(2, 0, true, 1000, -40), 899);
        Check.same("all is paid", x.balance(2, 0), 0);
        RangeExchange empty = new RangeExchange(0, 0);
        Check.same("nothing is to be paid, and nothing is had", empty.swap(3, 1, true, 5, -1), 0);
    }

    private static void promise9PaidIsOfTheLatestDone() {
        RangeExchange x = lent(100);
        Check.same("no swap yet", x.paid(), 0);
        x.swap(1, 0, true, 1000, -40);
        Check.same("with the fee", x.paid(), 1000);
        Check.refuses("a refused swap", STATE, () -> x.swap(3, 0, true, 2000, -40));
        Check.same("is not the latest", x.paid(), 1000);
        x.swap(1, 1, true, -1000, -40);
        Check.same("in the other pool", x.paid(), 1114);
        x.mint(1, 0, -1, 1, 500);
        x.burn(1, 0, -1, 1, 500);
        x.collect(1, 0, -1, 1);
        Check.same("only swaps count", x.paid(), 1114);
        RangeExchange y = new RangeExchange(0, 0);
        y.swap(0, 0, true, 1000, -40);
        Check.same("a swap that took nothing", y.paid(), 0);
        x.swap(1, 0, true, 100000000, -1);
        Check.holds("what was paid, not what was asked", x.paid() < 100000);
    }

    private static void promise10Price() {
        RangeExchange x = lent(0);
        x.swap(1, 1, true, 1000, -40);
        Check.same("price of pool 0", x.price(0), 4294967296L);
        Check.same("price of pool 1", x.price(1), 4290676620L);
        for (int pool : OUT_OF_PAIRS) {
            Check.refuses("price of pool " + pool, INDEX, () -> x.price(pool));
        }
    }

    private static void promise11Tick() {
        RangeExchange x = lent(0);
        x.swap(1, 1, true, 40000, -40);
        Check.same("tick of pool 0", x.tick(0), 0);
        Check.same("tick of pool 1", x.tick(1), -2);
        x.swap(1, 1, true, 40000000, -40);
        Check.same("tick below the lowest", x.tick(1), -41);
        x.swap(1, 1, false, 1, 40);
        Check.same("tick above it again", x.tick(1), -40);
        for (int pool : OUT_OF_PAIRS) {
            Check.refuses("tick of pool " + pool, INDEX, () -> x.tick(pool));
        }
    }

    private static void promise12Liquidity() {
        RangeExchange x = lent(0);
        x.mint(1, 1, -5, 5, 30);
        x.mint(1, 1, 5, 6, 700);
        Check.same("liquidity of pool 0", x.liquidity(0), 1000000);
        Check.same("liquidity of pool 1", x.liquidity(1), 1000030);
        for (int pool : OUT_OF_PAIRS) {
            Check.refuses("liquidity of pool " + pool, INDEX, () -> x.liquidity(pool));
        }
    }

    private static void promise13Growth() {
        RangeExchange x = lent(100);
        x.swap(1, 1, true, 1000, -40);
        x.swap(1, 1, false, 500, 40);
        Check.same("near growth of pool 1", x.growth(1, 0), 429496);
        Check.same("far growth of pool 1", x.growth(1, 1), 214748);
        Check.same("near growth of pool 0", x.growth(0, 0), 0);
        Check.same("far growth of pool 0", x.growth(0, 1), 0);
        for (int wrong : OUT_OF_PAIRS) {
            Check.refuses("growth of pool " + wrong, INDEX, () -> x.growth(wrong, 0));
            Check.refuses("growth of side " + wrong, INDEX, () -> x.growth(0, wrong));
        }
    }
}
