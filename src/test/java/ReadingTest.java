/** Promises 9 (paid), 10 (price), 11 (tick), 12 (liquidity), 13 (growth), 15 (held). */
public final class ReadingTest {
    public static void main(String[] args) {
        promise9Paid0WhenThereWasNone();
        promise9PaidIsOfTheLatestSwapDone();
        promise9PaidOfARouteIsOfItsFirstSwap();
        promise9PaidOfASwapThatTookNothingIs0();
        promise10Price();
        promise11Tick();
        promise12Liquidity();
        promise13Growth();
        promise13SideOutOfRange();
        promise15HeldIsWhatWasPaidInLessWhatWasPaidOut();
        promise15TokenOutOfRange();
        Check.finish("ReadingTest");
    }

    /** Owner 0 has lent 1000000 from end to end in both pools. */
    private static Counted lent(int fee) {
        Counted x = new Counted(fee, fee);
        for (int token = 0; token < 3; token++) {
            x.give(0, token, 50000000);
            x.give(1, token, 40000000);
        }
        x.mint(0, 0, -40, 40, 1000000);
        x.mint(0, 1, -40, 40, 1000000);
        return x;
    }

    private static Counted lent() {
        return lent(100);
    }

    /** "0 when there was none": gifts, mints, burns, collects and refused swaps are none. */
    private static void promise9Paid0WhenThereWasNone() {
        Check.same("a new object", new Counted(3, 4).paid(), 0);
        Counted x = lent();
        Check.same("after gives and mints", x.paid(), 0);
        x.burn(0, 0, -40, 40, 500);
        x.collect(0, 0, -40, 40);
        Check.refuses("a swap of nothing", Edge.ARGUMENT, () -> x.swap(1, 0, true, 0, -40));
        Check.refuses("a swap that cannot be paid", Edge.STATE, () -> x.swap(3, 0, true, 1000, -40));
        Check.refuses("a route that gets too little", Edge.STATE, () -> x.route(1, 1000, 1000));
        Check.same("after all but swaps", x.paid(), 0);
        x.swap(1, 0, true, 1, -40);
        Check.same("after the first one", x.paid(), 1);
    }

    private static void promise9PaidIsOfTheLatestSwapDone() {
        Counted x = lent();
        x.swap(1, 0, true, 1000, -40);
        Check.same("with the fee", x.paid(), 1000);
        Check.refuses("a refused swap", Edge.STATE, () -> x.swap(3, 0, true, 2000, -40));
        Check.same("is not the latest", x.paid(), 1000);
        Check.refuses("a refused route", Edge.STATE, () -> x.route(1, 2000, 100000));
        Check.same("is not the latest either", x.paid(), 1000);
        x.swap(1, 1, true, -1000, -40);
        Check.same("in the other pool", x.paid(), 1114);
        x.mint(1, 0, -1, 1, 500);
        x.burn(1, 0, -1, 1, 500);
        x.collect(1, 0, -1, 1);
        x.give(1, 0, 5);
        Check.same("only swaps count", x.paid(), 1114);
        x.swap(1, 1, false, 100000000, 1);
        Check.same("what was paid, not what was asked", x.paid(), 35835);
    }

    private static void promise9PaidOfARouteIsOfItsFirstSwap() {
        Counted x = lent();
        x.route(1, 1000, 0);
        Check.same("paid of token 0", x.paid(), 1000);
        Check.same("the second one paid what the first one got", x.balance(1, 1), 40000000);
        x.swap(1, 1, false, 10, 40);
        Check.same("a swap after the route", x.paid(), 10);
        x.route(1, 2000, 0);
        Check.same("a route after the swap", x.paid(), 2000);
    }

    private static void promise9PaidOfASwapThatTookNothingIs0() {
        Counted x = lent();
        x.burn(0, 0, -40, 40, 1000000);
        x.swap(1, 1, true, 1000, -40);
        Check.same("one that took in 1000", x.paid(), 1000);
        x.swap(1, 0, true, 1000, -40);
        Check.same("and then one where nothing is lent", x.paid(), 0);
    }

    /** "An owner, token, pool or tick out of its range is an IndexOutOfBoundsException." */
    private static void promise10Price() {
        Edge.Maker moved = () -> {
            Counted x = lent(0);
            x.swap(1, 1, true, 1000, -40);
            return x;
        };
        Edge.allowed("price of pool 0", moved, x -> x.price(0), 4294967296L);
        Edge.allowed("price of pool 1", moved, x -> x.price(1), 4290676620L);
        for (int pool : Edge.OUT_OF_POOLS) {
            Edge.refused("price of pool " + pool, Edge.INDEX, moved, x -> x.price(pool));
        }
    }

    private static void promise11Tick() {
        Counted x = lent(0);
        x.swap(1, 1, true, 40000, -40);
        Check.same("tick of pool 0", x.tick(0), 0);
        Check.same("tick of pool 1", x.tick(1), -2);
        x.swap(1, 1, true, 40000000, -40);
        Check.same("the lowest tick", x.tick(1), -41);
        x.swap(1, 1, false, 1, 40);
        Check.same("the tick above it", x.tick(1), -40);
        x.swap(1, 1, false, 40000000, 40);
        Check.same("the highest tick", x.tick(1), 40);
        x.swap(1, 1, true, 1, -40);
        Check.same("the tick below it", x.tick(1), 39);
        for (int pool : Edge.OUT_OF_POOLS) {
            Edge.refused("tick of pool " + pool, Edge.INDEX, ReadingTest::lent, y -> y.tick(pool));
        }
    }

    private static void promise12Liquidity() {
        Edge.Maker more = () -> {
            Counted x = lent(0);
            x.mint(1, 1, -5, 5, 30);
            x.mint(1, 1, 5, 6, 700);
            return x;
        };
        Edge.allowed("liquidity of pool 0", more, x -> x.liquidity(0), 1000000);
        Edge.allowed("liquidity of pool 1", more, x -> x.liquidity(1), 1000030);
        for (int pool : Edge.OUT_OF_POOLS) {
            Edge.refused("liquidity of pool " + pool, Edge.INDEX, more, x -> x.liquidity(pool));
        }
    }

    private static Counted grown() {
        Counted x = lent();
        x.swap(1, 1, true, 1000, -40);
        x.swap(1, 1, false, 500, 40);
        return x;
    }

    private static void promise13Growth() {
        Edge.allowed("near growth of pool 1", ReadingTest::grown, x -> x.growth(1, 0), 429496);
        Edge.allowed("far growth of pool 1", ReadingTest::grown, x -> x.growth(1, 1), 214748);
        Edge.allowed("near growth of pool 0", ReadingTest::grown, x -> x.growth(0, 0), 0);
        Edge.allowed("far growth of pool 0", ReadingTest::grown, x -> x.growth(0, 1), 0);
        for (int pool : Edge.OUT_OF_POOLS) {
            Edge.refused("growth of pool " + pool, Edge.INDEX, ReadingTest::grown, x -> x.growth(pool, 0));
        }
    }

    /** "IndexOutOfBoundsException for another side, too" */
    private static void promise13SideOutOfRange() {
        for (int side : Edge.OUT_OF_SIDES) {
            Edge.refused("side " + side, Edge.INDEX, ReadingTest::grown, x -> x.growth(0, side));
            Edge.refused("side " + side + " of pool 1", Edge.INDEX, ReadingTest::grown,
                    x -> x.growth(1, side));
        }
    }

    private static void promise15HeldIsWhatWasPaidInLessWhatWasPaidOut() {
        Counted x = lent(0);
        Check.same("near of pool 0", x.held(0), 707961);
        Check.same("far of pool 0 and near of pool 1", x.held(1), 707961 + 707961);
        Check.same("far of pool 1", x.held(2), 707961);
        x.swap(1, 0, true, 1000, -40);
        Check.same("a swap brings in", x.held(0), 707961 + 1000);
        Check.same("and takes out", x.held(1), 707961 + 707961 - 999);
        x.burn(0, 0, -40, 40, 1000000);
        Check.same("what is owed is held", x.held(0), 707961 + 1000);
        x.collect(0, 0, -40, 40);
        Check.same("what was rounded is held when all is collected", x.held(0), 1);
        Check.same("of the other token as well", x.held(1) - 707961, 1);
        x.give(2, 0, 5);
        Check.same("what is given is not held", x.held(0), 1);
    }

    private static void promise15TokenOutOfRange() {
        Edge.allowed("held of token 0", ReadingTest::lent, x -> x.held(0), 707961);
        Edge.allowed("held of token 2", ReadingTest::lent, x -> x.held(2), 707961);
        for (int token : Edge.OUT_OF_TOKENS) {
            Edge.refused("held of token " + token, Edge.INDEX, ReadingTest::lent, x -> x.held(token));
        }
    }
}
