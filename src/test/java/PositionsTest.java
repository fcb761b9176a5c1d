import java.util.NoSuchElementException;

/** Promises 4 (mint), 5 (burn), 6 (collect), 14 (position). */
public final class PositionsTest {
    private static final Class<IndexOutOfBoundsException> INDEX = IndexOutOfBoundsException.class;
    private static final Class<IllegalArgumentException> ARGUMENT = IllegalArgumentException.class;
    private static final Class<IllegalStateException> STATE = IllegalStateException.class;
    private static final Class<NoSuchElementException> NONE = NoSuchElementException.class;
    private static final int[] OUT_OF_OWNERS = {-1, 4, Integer.MIN_VALUE, Integer.MAX_VALUE};
    private static final int[] OUT_OF_POOLS = {-1, 2, Integer.MIN_VALUE, Integer.MAX_VALUE};
    private static final int[] OUT_OF_TICKS = {-41, 41, Integer.MIN_VALUE, Integer.MAX_VALUE};

    public static void main(String[] args) {
        promise4MintCostsWhatItIsWorthRoundedUp();
        promise4MintAfterThePriceMoved();
        promise4MintInsideATick();
        promise4ExactWorthIsNotRounded();
        promise4MintAddsToAPositionAndSettlesIt();
        promise4MintHasARoomOfTwelve();
        promise4MintRefusesIndices();
        promise4MintRefusesArguments();
        promise4MintRefusesWhoHasTooLittle();
        promise5BurnOwesWhatItIsWorthRoundedDown();
        promise5BurnOfNothingSettles();
        promise5BurnTakesFromTheLiquidityInRangeOnly();
        promise5BurnEndsAPositionThatIsOwedNothing();
        promise5BurnRefuses();
        promise6CollectPaysWithoutSettling();
        promise6CollectEndsAnEmptyPosition();
        promise6CollectRefuses();
        promise14PositionTellsAndNeverThrows();
        Check.finish("PositionsTest");
    }

    private static RangeExchange rich(int first, int second) {
        RangeExchange x = new RangeExchange(first, second);
        for (int owner = 0; owner < 4; owner++) {
            for (int token = 0; token < 3; token++) {
                x.give(owner, token, 25000000);
            }
        }
        return x;
    }

    private static void costs(RangeExchange x, int pool, int lo, int hi, int l, long near, long far) {
        String what = "mint(0, " + pool + ", " + lo + ", " + hi + ", " + l + ")";
        long nearBefore = x.balance(0, pool);
        long farBefore = x.balance(0, pool + 1);
        long nearHeld = x.held(pool);
        long farHeld = x.held(pool + 1);
        x.mint(0, pool, lo, hi, l);
        Check.same("near paid for " + what, nearBefore - x.balance(0, pool), near);
        Check.same("far paid for " + what, farBefore - x.balance(0, pool + 1), far);
        Check.same("near held by " + what, x.held(pool) - nearHeld, near);
        Check.same("far held by " + what, x.held(pool + 1) - farHeld, far);
    }

    private static void promise4MintCostsWhatItIsWorthRoundedUp() {
        for (int pool = 0; pool < 2; pool++) {
            costs(rich(0, 0), pool, -10, 10, 1000000, 264877, 264877);
            costs(rich(0, 0), pool, -10, 10, 50000000, 13243819, 13243819);
            costs(rich(0, 0), pool, -10, 10, 1, 1, 1);
            costs(rich(0, 0), pool, 1, 5, 1000000, 112304, 0);
            costs(rich(0, 0), pool, -5, -1, 1000000, 0, 112304);
            costs(rich(0, 0), pool, 0, 5, 1000000, 142607, 0);
            costs(rich(0, 0), pool, -5, 0, 1000000, 0, 142607);
        }
        RangeExchange x = rich(0, 0);
        Check.same("mint answers the amount", x.mint(0, 1, -10, 10, 77), 77);
        Check.same("mint takes nothing of the third token", x.balance(0, 0), 25000000);
        Check.same("mint takes nothing of another owner", x.balance(1, 1), 25000000);
        Check.same("mint is no swap", x.paid(), 0);
    }

    private static void promise4MintAfterThePriceMoved() {
        RangeExchange x = rich(0, 0);
        x.swap(0, 0, true, 1, -40);
        Check.same("tick below all", x.tick(0), -41);
        costs(x, 0, -40, 40, 1, 4, 0);
        RangeExchange y = rich(0, 0);
        y.swap(0, 0, false, 1, 40);
        costs(y, 0, -40, 40, 1, 0, 4);
        RangeExchange z = rich(0, 0);
        z.mint(1, 0, -5, 5, 1000);
        z.swap(1, 0, true, 10000, -5);
        Check.same("tick below the crossed -5", z.tick(0), -6);
        costs(z, 0, -10, -5, 1000000, 0, 122270);
        costs(z, 0, -5, 0, 1000000, 166326, 0);
        Check.same("at tick -6 with the price ROOT(-5) -10 .. -5 is in range", z.liquidity(0), 1000000);
    }

    private static void promise4MintInsideATick() {
        RangeExchange x = rich(0, 0);
        x.mint(1, 0, -40, 40, 1000000);
        x.swap(1, 0, false, 1000, 40);
        Check.same("a price inside tick 0", x.price(0), 4299262263L);
        costs(x, 0, 0, 5, 1000000, 141608, 1000);
        costs(x, 0, -5, 0, 1000000, 0, 142607);
        costs(x, 0, 1, 5, 1000000, 112304, 0);
        Check.same("0 .. 5 is in range, -5 .. 0 and 1 .. 5 are not", x.liquidity(0), 2000000);
        x.burn(0, 0, 0, 5, 1000000);
        Check.same("near owed", x.position(0, 0, 0, 5, 1), 141607);
        Check.same("far owed", x.position(0, 0, 0, 5, 2), 999);
        x.burn(0, 0, -5, 0, 1000000);
        Check.same("near owed at tick hi", x.position(0, 0, -5, 0, 1), 0);
        Check.same("far owed at tick hi", x.position(0, 0, -5, 0, 2), 142606);
    }

    /** ROOT(1) is 33 / 32 of ROOT(0): between them l is worth just l / 33 of near or l / 32 of far. */
    private static void promise4ExactWorthIsNotRounded() {
        RangeExchange x = rich(0, 0);
        costs(x, 0, 0, 1, 33, 1, 0);
        x.burn(0, 0, 0, 1, 33);
        Check.same("33 is worth 1 of near", x.position(0, 0, 0, 1, 1), 1);
        costs(x, 0, 0, 1, 1056, 32, 0);
        x.burn(0, 0, 0, 1, 1056);
        Check.same("1056 is worth 32 of near", x.position(0, 0, 0, 1, 1), 33);
        x.swap(0, 0, false, 1, 1);
        costs(x, 0, 0, 1, 1056, 0, 33);
        x.burn(0, 0, 0, 1, 1056);
        Check.same("1056 is worth 33 of far", x.position(0, 0, 0, 1, 2), 33);
        costs(x, 0, 0, 1, 1057, 0, 34);
        RangeExchange y = rich(0, 0);
        y.mint(1, 0, -40, 40, 6400);
        y.swap(1, 0, false, 100, 40);
        Check.same("a price of 65 * 2^26", y.price(0), 4362076160L);
        costs(y, 0, 0, 1, 2145, 32, 34);
        y.burn(0, 0, 0, 1, 2145);
        Check.same("from there to ROOT(1) 2145 is worth 32 of near", y.position(0, 0, 0, 1, 1), 32);
        Check.same("and 33.5 of far", y.position(0, 0, 0, 1, 2), 33);
    }

    private static void promise4MintAddsToAPositionAndSettlesIt() {
        RangeExchange x = rich(100, 0);
        x.mint(0, 0, -10, 10, 1000000);
        x.swap(1, 0, true, 1000, -40);
        Check.same("growth of the fee of 100", x.growth(0, 0), 429496);
        Check.same("not settled yet", x.position(0, 0, -10, 10, 1), 0);
        Check.same("mint answers the whole amount", x.mint(0, 0, -10, 10, 500000), 1500000);
        Check.same("near owed: 429496 * 1000000 / 2^32", x.position(0, 0, -10, 10, 1), 99);
        Check.same("far owed", x.position(0, 0, -10, 10, 2), 0);
        Check.same("liquidity", x.liquidity(0), 1500000);
        x.mint(2, 0, -10, 10, 1);
        Check.same("another owner's is another position", x.position(2, 0, -10, 10, 0), 1);
        Check.same("a new one is owed nothing of before", x.position(2, 0, -10, 10, 1), 0);
        x.burn(2, 0, -10, 10, 0);
        Check.same("nor when it is settled", x.position(2, 0, -10, 10, 1), 0);
    }

    private static void promise4MintHasARoomOfTwelve() {
        RangeExchange x = rich(0, 0);
        for (int i = 1; i <= 12; i++) {
            Check.same("position " + i, x.mint(i % 4, i % 2, -i, i, 10 * i), 10 * i);
        }
        Seen.refused(x, "a 13th position", STATE, () -> x.mint(0, 0, -13, 13, 5));
        Seen.refused(x, "a 13th with the same ticks", STATE, () -> x.mint(0, 0, -1, 1, 5));
        Check.same("more of the 12th", x.mint(0, 0, -12, 12, 5), 125);
        Check.same("all of one burnt", x.burn(0, 0, -12, 12, 125), 0);
        Seen.refused(x, "a 13th while one is owed", STATE, () -> x.mint(0, 0, -13, 13, 5));
        Check.same("one without amount is minted again", x.mint(0, 0, -12, 12, 5), 5);
        x.burn(0, 0, -12, 12, 5);
        Check.holds("what is owed is collected", x.collect(0, 0, -12, 12) > 0);
        Check.same("room again", x.mint(0, 0, -13, 13, 5), 5);
        Seen.refused(x, "a 13th once more", STATE, () -> x.mint(3, 1, -14, 13, 5));
    }

    private static void promise4MintRefusesIndices() {
        RangeExchange x = rich(0, 0);
        for (int owner : OUT_OF_OWNERS) {
            Seen.refused(x, "mint by owner " + owner, INDEX, () -> x.mint(owner, 0, 0, 5, 1));
        }
        for (int pool : OUT_OF_POOLS) {
            Seen.refused(x, "mint in pool " + pool, INDEX, () -> x.mint(0, pool, 0, 5, 1));
        }
        for (int tick : OUT_OF_TICKS) {
            Seen.refused(x, "mint from " + tick, INDEX, () -> x.mint(0, 0, tick, 5, 1));
            Seen.refused(x, "mint to " + tick, INDEX, () -> x.mint(0, 0, 0, tick, 1));
        }
        Seen.refused(x, "mint with a wrong owner and l", INDEX, () -> x.mint(4, 0, 0, 5, 0));
        Seen.refused(x, "mint with a wrong tick and order", INDEX, () -> x.mint(0, 0, 41, 5, 1));
        Check.same("the outermost ticks", x.mint(0, 0, -40, 40, 1), 1);
    }

    private static void promise4MintRefusesArguments() {
        RangeExchange x = rich(0, 0);
        int[] wrong = {0, -1, 50000001, Integer.MIN_VALUE, Integer.MAX_VALUE};
        for (int l : wrong) {
            Seen.refused(x, "mint of " + l, ARGUMENT, () -> x.mint(0, 0, 0, 5, l));
        }
        Seen.refused(x, "mint with lo = hi", ARGUMENT, () -> x.mint(0, 0, 5, 5, 1));
        Seen.refused(x, "mint with lo above hi", ARGUMENT, () -> x.mint(0, 0, 5, 4, 1));
        Check.same("mint of the most", x.mint(0, 0, 0, 1, 50000000), 50000000);
        Seen.refused(x, "mint over the most", ARGUMENT, () -> x.mint(0, 0, 0, 1, 1));
        Seen.refused(x, "mint far over the most", ARGUMENT, () -> x.mint(0, 0, 0, 1, 50000000));
        Check.same("mint up to the most", x.mint(0, 0, 1, 2, 49999999), 49999999);
        Check.same("and to it", x.mint(0, 0, 1, 2, 1), 50000000);
        RangeExchange poor = new RangeExchange(0, 0);
        Seen.refused(poor, "a wrong l before too little", ARGUMENT, () -> poor.mint(0, 0, 0, 5, 0));
    }

    private static void promise4MintRefusesWhoHasTooLittle() {
        RangeExchange x = new RangeExchange(0, 0);
        x.give(0, 0, 264876);
        x.give(0, 1, 264877);
        Seen.refused(x, "mint with one near too little", STATE, () -> x.mint(0, 0, -10, 10, 1000000));
        x.give(0, 0, 1);
        Check.same("mint with just enough", x.mint(0, 0, -10, 10, 1000000), 1000000);
        x.give(1, 1, 264877);
        x.give(1, 2, 264876);
        Seen.refused(x, "mint with one far too little", STATE, () -> x.mint(1, 1, -10, 10, 1000000));
        x.give(1, 2, 1);
        Check.same("mint with just enough far", x.mint(1, 1, -10, 10, 1000000), 1000000);
        Check.same("all near is paid", x.balance(1, 1), 0);
        Check.same("all far is paid", x.balance(1, 2), 0);
        Seen.refused(x, "mint of others' tokens", STATE, () -> x.mint(2, 0, -1, 1, 1));
    }

    private static void promise5BurnOwesWhatItIsWorthRoundedDown() {
        RangeExchange x = rich(0, 0);
        x.mint(0, 1, -10, 10, 3000000);
        Check.same("burn answers what is left", x.burn(0, 1, -10, 10, 1000000), 2000000);
        Check.same("near owed", x.position(0, 1, -10, 10, 1), 264876);
        Check.same("far owed", x.position(0, 1, -10, 10, 2), 264876);
        Check.same("nothing is paid yet", x.balance(0, 1), 25000000 - 794630);
        Check.same("nor taken from what is held", x.held(1), 794630);
        x.burn(0, 1, -10, 10, 2000000);
        Check.same("near owed adds up", x.position(0, 1, -10, 10, 1), 264876 + 529752);
        Check.same("no amount is left", x.position(0, 1, -10, 10, 0), 0);
        x.mint(0, 0, 1, 5, 1000000);
        x.burn(0, 0, 1, 5, 1000000);
        Check.same("near owed above the price", x.position(0, 0, 1, 5, 1), 112303);
        Check.same("far owed above the price", x.position(0, 0, 1, 5, 2), 0);
        x.mint(0, 0, -5, 0, 1000000);
        x.burn(0, 0, -5, 0, 1000000);
        Check.same("near owed below the price", x.position(0, 0, -5, 0, 1), 0);
        Check.same("far owed below the price", x.position(0, 0, -5, 0, 2), 142606);
    }

    private static void promise5BurnOfNothingSettles() {
        RangeExchange x = rich(100, 0);
        x.mint(0, 0, -10, 10, 1000000);
        x.mint(1, 0, 20, 30, 1000000);
        x.swap(2, 0, true, 1000, -40);
        x.swap(2, 0, false, 1000, 40);
        Check.same("burn of 0 answers the amount", x.burn(0, 0, -10, 10, 0), 1000000);
        Check.same("near owed", x.position(0, 0, -10, 10, 1), 99);
        Check.same("far owed", x.position(0, 0, -10, 10, 2), 99);
        x.burn(0, 0, -10, 10, 0);
        Check.same("settled twice is owed once", x.position(0, 0, -10, 10, 1), 99);
        Check.same("burn of 0 out of range", x.burn(1, 0, 20, 30, 0), 1000000);
        Check.same("out of range nothing is owed", x.position(1, 0, 20, 30, 1), 0);
    }

    private static void promise5BurnTakesFromTheLiquidityInRangeOnly() {
        RangeExchange x = rich(0, 0);
        x.mint(0, 0, 0, 5, 100);
        x.mint(0, 0, -5, 0, 1000);
        x.mint(0, 0, -5, 5, 10000);
        Check.same("lo is in range, hi is not", x.liquidity(0), 10100);
        x.burn(0, 0, -5, 0, 1000);
        Check.same("burnt out of range", x.liquidity(0), 10100);
        x.burn(0, 0, 0, 5, 40);
        Check.same("burnt in range", x.liquidity(0), 10060);
        x.swap(0, 0, true, 25000000, -40);
        x.swap(0, 0, false, 25000000, 40);
        Check.same("every tick is crossed with what is left", x.liquidity(0), 0);
        x.swap(0, 0, true, 25000000, 0);
        Check.same("back at tick 0, crossed downwards", x.liquidity(0), 10000);
    }

    private static void promise5BurnEndsAPositionThatIsOwedNothing() {
        RangeExchange x = rich(0, 0);
        x.mint(0, 0, 0, 5, 1);
        Check.same("1 of liquidity is worth nothing back", x.burn(0, 0, 0, 5, 1), 0);
        Check.refuses("collect of what is none", NONE, () -> x.collect(0, 0, 0, 5));
        Check.refuses("burn of what is none", NONE, () -> x.burn(0, 0, 0, 5, 0));
        Check.same("what was paid stays held", x.held(0), 1);
        x.mint(0, 0, 0, 5, 1000);
        x.burn(0, 0, 0, 5, 1000);
        Check.same("one without amount, but owed, is one", x.burn(0, 0, 0, 5, 0), 0);
        Check.same("and stays owed", x.position(0, 0, 0, 5, 1), 142);
    }

    private static void promise5BurnRefuses() {
        RangeExchange x = rich(0, 0);
        x.mint(0, 0, -5, 5, 1000);
        for (int owner : OUT_OF_OWNERS) {
            Seen.refused(x, "burn by owner " + owner, INDEX, () -> x.burn(owner, 0, -5, 5, 1));
        }
        for (int pool : OUT_OF_POOLS) {
            Seen.refused(x, "burn in pool " + pool, INDEX, () -> x.burn(0, pool, -5, 5, 1));
        }
        for (int tick : OUT_OF_TICKS) {
            Seen.refused(x, "burn from " + tick, INDEX, () -> x.burn(0, 0, tick, 5, 1));
            Seen.refused(x, "burn to " + tick, INDEX, () -> x.burn(0, 0, -5, tick, 1));
        }
        Seen.refused(x, "burn with a wrong tick and l", INDEX, () -> x.burn(0, 0, -5, 41, -1));
        Seen.refused(x, "burn below 0", ARGUMENT, () -> x.burn(0, 0, -5, 5, -1));
        Seen.refused(x, "burn of the least int", ARGUMENT, () -> x.burn(0, 0, -5, 5, Integer.MIN_VALUE));
        Seen.refused(x, "burn with lo = hi", ARGUMENT, () -> x.burn(0, 0, 5, 5, 1));
        Seen.refused(x, "burn with lo above hi", ARGUMENT, () -> x.burn(0, 0, 5, -5, 1));
        Seen.refused(x, "burn below 0 of none", ARGUMENT, () -> x.burn(0, 0, -5, 6, -1));
        Seen.refused(x, "burn of none", NONE, () -> x.burn(0, 0, -5, 6, 1));
        Seen.refused(x, "burn of none, 0", NONE, () -> x.burn(0, 0, -4, 5, 0));
        Seen.refused(x, "burn of another owner's", NONE, () -> x.burn(1, 0, -5, 5, 1));
        Seen.refused(x, "burn of another pool's", NONE, () -> x.burn(0, 1, -5, 5, Integer.MAX_VALUE));
        Seen.refused(x, "burn of one too many", STATE, () -> x.burn(0, 0, -5, 5, 1001));
        Seen.refused(x, "burn of the greatest int", STATE, () -> x.burn(0, 0, -5, 5, Integer.MAX_VALUE));
        Check.same("burn of all", x.burn(0, 0, -5, 5, 1000), 0);
        Seen.refused(x, "burn of 1 where 0 is left", STATE, () -> x.burn(0, 0, -5, 5, 1));
    }

    private static void promise6CollectPaysWithoutSettling() {
        RangeExchange x = rich(100, 0);
        x.mint(0, 0, -10, 10, 1000000);
        x.swap(2, 0, true, 1000, -40);
        Check.same("collect before it is settled", x.collect(0, 0, -10, 10), 0);
        x.burn(0, 0, -10, 10, 0);
        x.swap(2, 0, true, 1000, -40);
        long near = x.balance(0, 0);
        long far = x.balance(0, 1);
        long held = x.held(0);
        Check.same("collect of what was settled", x.collect(0, 0, -10, 10), 99);
        Check.same("near is paid", x.balance(0, 0) - near, 99);
        Check.same("far is not", x.balance(0, 1) - far, 0);
        Check.same("held falls", held - x.held(0), 99);
        Check.same("collect again", x.collect(0, 0, -10, 10), 0);
        x.burn(0, 0, -10, 10, 0);
        Check.same("the second swap's fee is owed later", x.position(0, 0, -10, 10, 1), 99);
    }

    private static void promise6CollectEndsAnEmptyPosition() {
        RangeExchange x = rich(0, 0);
        x.mint(3, 1, -10, 10, 1000000);
        x.burn(3, 1, -10, 10, 1000000);
        Check.same("collect of both tokens", x.collect(3, 1, -10, 10), 529752);
        Check.same("near is paid back", x.balance(3, 1), 25000000 - 1);
        Check.same("far is paid back", x.balance(3, 2), 25000000 - 1);
        Check.same("near held", x.held(1), 1);
        Check.same("far held", x.held(2), 1);
        Check.refuses("collect of what has ended", NONE, () -> x.collect(3, 1, -10, 10));
    }

    private static void promise6CollectRefuses() {
        RangeExchange x = rich(0, 0);
        x.mint(0, 0, -5, 5, 1000);
        x.burn(0, 0, -5, 5, 500);
        for (int owner : OUT_OF_OWNERS) {
            Seen.refused(x, "collect by owner " + owner, INDEX, () -> x.collect(owner, 0, -5, 5));
        }
        for (int pool : OUT_OF_POOLS) {
            Seen.refused(x, "collect in pool " + pool, INDEX, () -> x.collect(0, pool, -5, 5));
        }
        for (int tick : OUT_OF_TICKS) {
            Seen.refused(x, "collect from " + tick, INDEX, () -> x.collect(0, 0, tick, 5));
            Seen.refused(x, "collect to " + tick, INDEX, () -> x.collect(0, 0, -5, tick));
        }
        Seen.refused(x, "collect of none", NONE, () -> x.collect(0, 0, -5, 6));
        Seen.refused(x, "collect with lo = hi", NONE, () -> x.collect(0, 0, 5, 5));
        Seen.refused(x, "collect with lo above hi", NONE, () -> x.collect(0, 0, 5, -5));
        Seen.refused(x, "collect of another owner's", NONE, () -> x.collect(1, 0, -5, 5));
        Seen.refused(x, "collect of another pool's", NONE, () -> x.collect(0, 1, -5, 5));
    }

    private static void promise14PositionTellsAndNeverThrows() {
        RangeExchange x = rich(0, 0);
        x.mint(1, 1, -10, 3, 1000000);
        x.burn(1, 1, -10, 3, 400000);
        Check.same("amount", x.position(1, 1, -10, 3, 0), 600000);
        Check.same("near owed", x.position(1, 1, -10, 3, 1), 35272);
        Check.same("far owed", x.position(1, 1, -10, 3, 2), 105950);
        int[] others = {-1, 3, Integer.MIN_VALUE, Integer.MAX_VALUE};
        for (int what : others) {
            Check.same("what " + what, x.position(1, 1, -10, 3, what), 0);
        }
        for (int wrong : new int[] {-1, 0, 2, 4, 41, Integer.MIN_VALUE, Integer.MAX_VALUE}) {
            Check.same("another owner", x.position(wrong, 1, -10, 3, 0), 0);
            Check.same("another pool", x.position(1, wrong, -10, 3, 0), 0);
            Check.same("another lo", x.position(1, 1, wrong, 3, 0), 0);
            Check.same("another hi", x.position(1, 1, -10, wrong, 0), 0);
        }
        Check.same("lo and hi changed", x.position(1, 1, 3, -10, 0), 0);
    }
}
