/** Promise 5 (burn). */
public final class BurnTest {
    public static void main(String[] args) {
        promise5OwesWhatItIsWorthRoundedDown();
        promise5OwesInsideATick();
        promise5ExactWorthIsNotRounded();
        promise5BothQuotientsOfNearAreRoundedDown();
        promise5SettlesBeforeTheAmountFalls();
        promise5OfNothingSettles();
        promise5TakesFromTheLiquidityInRangeOnly();
        promise5EndsAPositionThatIsOwedNothing();
        promise5OwnerPoolOrTickOutOfRange();
        promise5LoNotLessThanHi();
        promise5LBelow0();
        promise5NoSuchPosition();
        promise5LMoreThanTheAmount();
        promise5OfSeveralExceptionsTheFirst();
        Check.finish("BurnTest");
    }

    private static Counted rich() {
        return Counted.rich(0, 0, 25000000);
    }

    /** Owner 0 has lent 1000 between -5 and 5 in pool 0. */
    private static Counted lent() {
        return lent(0, 0, -5, 5);
    }

    private static Counted lent(int owner, int pool, int lo, int hi) {
        Counted x = rich();
        x.mint(owner, pool, lo, hi, 1000);
        return x;
    }

    private static void promise5OwesWhatItIsWorthRoundedDown() {
        Counted x = rich();
        x.mint(0, 1, -10, 10, 3000000);
        Check.same("burn answers what is left", x.burn(0, 1, -10, 10, 1000000), 2000000);
        Check.same("near owed", x.position(0, 1, -10, 10, 1), 264876);
        Check.same("far owed", x.position(0, 1, -10, 10, 2), 264876);
        Check.same("nothing is paid yet", x.balance(0, 1), 25000000 - 794630);
        Check.same("nor taken from what is held", x.held(1), 794630);
        Check.same("burn is no swap", x.paid(), 0);
        x.burn(0, 1, -10, 10, 2000000);
        Check.same("near owed adds up", x.position(0, 1, -10, 10, 1), 264876 + 529752);
        Check.same("far owed adds up", x.position(0, 1, -10, 10, 2), 264876 + 529752);
        Check.same("no amount is left", x.position(0, 1, -10, 10, 0), 0);
        x.mint(0, 0, 1, 5, 1000000);
        x.burn(0, 0, 1, 5, 1000000);
        Check.same("near owed above the price", x.position(0, 0, 1, 5, 1), 112303);
        Check.same("far owed above the price", x.position(0, 0, 1, 5, 2), 0);
        x.mint(0, 0, -5, 0, 1000000);
        x.burn(0, 0, -5, 0, 1000000);
        Check.same("near owed below the price", x.position(0, 0, -5, 0, 1), 0);
        Check.same("far owed below the price", x.position(0, 0, -5, 0, 2), 142606);
    }

    private static void promise5OwesInsideATick() {
        Counted x = rich();
        x.mint(1, 0, -40, 40, 1000000);
        x.swap(1, 0, false, 1000, 40);
        x.mint(0, 0, 0, 5, 1000000);
        x.mint(0, 0, -5, 0, 1000000);
        x.burn(0, 0, 0, 5, 1000000);
        Check.same("near owed", x.position(0, 0, 0, 5, 1), 141607);
        Check.same("far owed", x.position(0, 0, 0, 5, 2), 999);
        x.burn(0, 0, -5, 0, 1000000);
        Check.same("near owed at tick hi", x.position(0, 0, -5, 0, 1), 0);
        Check.same("far owed at tick hi", x.position(0, 0, -5, 0, 2), 142606);
    }

    /** Between ROOT(0) and ROOT(1) l is worth just l / 33 of near or l / 32 of far. */
    private static void promise5ExactWorthIsNotRounded() {
        owes(0, 32, 0, 0);
        owes(0, 33, 1, 0);
        owes(0, 65, 1, 0);
        owes(0, 66, 2, 0);
        owes(0, 1056, 32, 0);
        owes(1, 31, 0, 0);
        owes(1, 32, 0, 1);
        owes(1, 63, 0, 1);
        owes(1, 64, 0, 2);
        owes(1, 1056, 0, 33);
        Counted y = rich();
        y.mint(1, 0, -40, 40, 6400);
        y.swap(1, 0, false, 100, 40);
        y.mint(0, 0, 0, 1, 2145);
        y.burn(0, 0, 0, 1, 2145);
        Check.same("from 65 * 2^26 to ROOT(1) 2145 is worth 32 of near", y.position(0, 0, 0, 1, 1), 32);
        Check.same("and 33.5 of far", y.position(0, 0, 0, 1, 2), 33);
    }

    private static void owes(int tick, int l, long near, long far) {
        Counted x = rich();
        if (tick > 0) {
            x.swap(0, 0, false, 1, tick);
        }
        x.mint(0, 0, 0, 1, l);
        x.burn(0, 0, 0, 1, l);
        Check.same("near owed for " + l + " at tick " + tick, x.position(0, 0, 0, 1, 1), near);
        Check.same("far owed for " + l + " at tick " + tick, x.position(0, 0, 0, 1, 2), far);
    }

    private static void promise5OfNothingSettles() {
        Counted x = Counted.rich(100, 0, 25000000);
        x.mint(0, 0, -10, 10, 1000000);
        x.mint(1, 0, 20, 30, 1000000);
        x.swap(2, 0, true, 1000, -40);
        x.swap(2, 0, false, 1000, 40);
        Check.same("burn of 0 answers the amount", x.burn(0, 0, -10, 10, 0), 1000000);
        Check.same("near owed", x.position(0, 0, -10, 10, 1), 99);
        Check.same("far owed", x.position(0, 0, -10, 10, 2), 99);
        Check.same("the liquidity stays", x.liquidity(0), 1000000);
        x.burn(0, 0, -10, 10, 0);
        Check.same("settled twice is owed once", x.position(0, 0, -10, 10, 1), 99);
        Check.same("burn of 0 out of range", x.burn(1, 0, 20, 30, 0), 1000000);
        Check.same("out of range nothing is owed", x.position(1, 0, 20, 30, 1), 0);
    }

    /** Between ROOT(10) and ROOT(40) 6521648 are worth a little less than 2889639. */
    private static void promise5BothQuotientsOfNearAreRoundedDown() {
        Counted x = rich();
        x.mint(0, 0, 10, 40, 6521648);
        x.burn(0, 0, 10, 40, 6521648);
        Check.same("near owed", x.position(0, 0, 10, 40, 1), 2889638);
    }

    /** The fee of 100 is owed to all of the 2^20 that were lent, not to what is left of them. */
    private static void promise5SettlesBeforeTheAmountFalls() {
        owedAfterABurn(0, 100, 0);
        owedAfterABurn(1, 100, 0);
        owedAfterABurn(1 << 19, 100 + 35092, 159272);
        owedAfterABurn(1 << 20, 100 + 70185, 318544);
    }

    private static void owedAfterABurn(int l, long near, long far) {
        Counted x = Counted.rich(100, 0, 25000000);
        x.mint(0, 0, 20, 30, 1 << 20);
        x.swap(1, 0, false, 25000000, 25);
        x.burn(0, 0, 20, 30, 0);
        x.collect(0, 0, 20, 30);
        x.swap(1, 0, true, 1000, -40);
        x.burn(0, 0, 20, 30, l);
        Check.same("near owed when " + l + " are burnt", x.position(0, 0, 20, 30, 1), near);
        Check.same("far owed when " + l + " are burnt", x.position(0, 0, 20, 30, 2), far);
    }

    private static void promise5TakesFromTheLiquidityInRangeOnly() {
        Counted x = rich();
        x.mint(0, 0, 0, 5, 100);
        x.mint(0, 0, -5, 0, 1000);
        x.mint(0, 0, -5, 5, 10000);
        Check.same("lo is in range, hi is not", x.liquidity(0), 10100);
        x.burn(0, 0, -5, 0, 1000);
        Check.same("burnt out of range", x.liquidity(0), 10100);
        x.burn(0, 0, 0, 5, 40);
        Check.same("burnt in range", x.liquidity(0), 10060);
        x.swap(0, 0, true, 25000000, -40);
        x.swap(0, 0, false, 25000000, 40);
        Check.same("every tick is crossed with what is left", x.liquidity(0), 0);
        x.swap(0, 0, true, 25000000, 0);
        Check.same("back at tick 0, crossed downwards", x.liquidity(0), 10000);
    }

    /** "one that has no amount any more and nothing owed is none" */
    private static void promise5EndsAPositionThatIsOwedNothing() {
        Edge.Maker ended = () -> burnt(0, 1, 32);
        Edge.refused("burn 0 of what is none", Edge.NONE, ended, x -> x.burn(0, 0, 0, 1, 0));
        Edge.refused("burn 1 of what is none", Edge.NONE, ended, x -> x.burn(0, 0, 0, 1, 1));
        Edge.refused("collect of what is none", Edge.NONE, ended, x -> x.collect(0, 0, 0, 1));
        Check.same("what was paid stays held", ended.make().held(0), 1);
        Edge.Maker nearOwed = () -> burnt(0, 1, 33);
        Edge.allowed("1 of near owed is a position", nearOwed, x -> x.burn(0, 0, 0, 1, 0), 0);
        Edge.refused("of which nothing can be burnt", Edge.STATE, nearOwed, x -> x.burn(0, 0, 0, 1, 1));
        Edge.Maker farOwed = () -> burnt(-1, 0, 34);
        Check.same("1 of far is owed", farOwed.make().position(0, 0, -1, 0, 2), 1);
        Edge.allowed("1 of far owed is a position", farOwed, x -> x.burn(0, 0, -1, 0, 0), 0);
        Edge.refused("of which nothing can be burnt", Edge.STATE, farOwed, x -> x.burn(0, 0, -1, 0, 1));
        Edge.Maker amountLeft = () -> {
            Counted x = rich();
            x.mint(0, 0, 0, 1, 2);
            x.burn(0, 0, 0, 1, 1);
            return x;
        };
        Edge.allowed("an amount of 1 is a position", amountLeft, x -> x.burn(0, 0, 0, 1, 0), 1);
        Edge.allowed("of which 1 can be burnt", amountLeft, x -> x.burn(0, 0, 0, 1, 1), 0);
    }

    private static Counted burnt(int lo, int hi, int l) {
        Counted x = rich();
        x.mint(0, 0, lo, hi, l);
        x.burn(0, 0, lo, hi, l);
        return x;
    }

    private static void promise5OwnerPoolOrTickOutOfRange() {
        Edge.allowed("burn by owner 0", BurnTest::lent, x -> x.burn(0, 0, -5, 5, 1), 999);
        Edge.allowed("burn by owner 3", () -> lent(3, 0, -5, 5), x -> x.burn(3, 0, -5, 5, 1), 999);
        for (int owner : Edge.OUT_OF_OWNERS) {
            Edge.refused("burn by owner " + owner, Edge.INDEX, BurnTest::lent,
                    x -> x.burn(owner, 0, -5, 5, 1));
        }
        Edge.allowed("burn in pool 1", () -> lent(0, 1, -5, 5), x -> x.burn(0, 1, -5, 5, 1), 999);
        for (int pool : Edge.OUT_OF_POOLS) {
            Edge.refused("burn in pool " + pool, Edge.INDEX, BurnTest::lent,
                    x -> x.burn(0, pool, -5, 5, 1));
        }
        Edge.allowed("burn from -40 to 40", () -> lent(0, 0, -40, 40), x -> x.burn(0, 0, -40, 40, 1), 999);
        for (int tick : Edge.OUT_OF_TICKS) {
            Edge.refused("burn from " + tick, Edge.INDEX, BurnTest::lent, x -> x.burn(0, 0, tick, 5, 1));
            Edge.refused("burn to " + tick, Edge.INDEX, BurnTest::lent, x -> x.burn(0, 0, -5, tick, 1));
        }
    }

    /** "IllegalArgumentException when lo is not less than hi" */
    private static void promise5LoNotLessThanHi() {
        for (int hi : new int[] {-39, 0, 1, 40}) {
            Edge.allowed("burn below " + hi, () -> lent(0, 0, hi - 1, hi), x -> x.burn(0, 0, hi - 1, hi, 1),
                    999);
            Edge.refused("burn from " + hi + " to it", Edge.ARGUMENT, () -> lent(0, 0, hi - 1, hi),
                    x -> x.burn(0, 0, hi, hi, 1));
            Edge.refused("burn from " + hi + " down", Edge.ARGUMENT, () -> lent(0, 0, hi - 1, hi),
                    x -> x.burn(0, 0, hi, hi - 1, 1));
        }
    }

    /** "or l below 0" */
    private static void promise5LBelow0() {
        Edge.allowed("burn of 0", BurnTest::lent, x -> x.burn(0, 0, -5, 5, 0), 1000);
        Edge.allowed("burn of 1", BurnTest::lent, x -> x.burn(0, 0, -5, 5, 1), 999);
        Edge.refused("burn of -1", Edge.ARGUMENT, BurnTest::lent, x -> x.burn(0, 0, -5, 5, -1));
        Edge.refused("burn of -1000", Edge.ARGUMENT, BurnTest::lent, x -> x.burn(0, 0, -5, 5, -1000));
        Edge.refused("burn of the least int", Edge.ARGUMENT, BurnTest::lent,
                x -> x.burn(0, 0, -5, 5, Integer.MIN_VALUE));
    }

    /** "NoSuchElementException when there is no such position" */
    private static void promise5NoSuchPosition() {
        Edge.refused("burn where nothing was ever lent", Edge.NONE, BurnTest::rich,
                x -> x.burn(0, 0, -5, 5, 0));
        Edge.refused("burn of another owner's", Edge.NONE, BurnTest::lent, x -> x.burn(1, 0, -5, 5, 1));
        Edge.refused("burn of another pool's", Edge.NONE, BurnTest::lent, x -> x.burn(0, 1, -5, 5, 1));
        Edge.refused("burn with another lo", Edge.NONE, BurnTest::lent, x -> x.burn(0, 0, -4, 5, 1));
        Edge.refused("burn with another hi", Edge.NONE, BurnTest::lent, x -> x.burn(0, 0, -5, 6, 0));
        Edge.Maker collected = () -> {
            Counted x = burnt(-5, 5, 1000);
            x.collect(0, 0, -5, 5);
            return x;
        };
        Edge.allowed("burn of one that is owed", () -> burnt(-5, 5, 1000), x -> x.burn(0, 0, -5, 5, 0), 0);
        Edge.refused("burn of one that was collected", Edge.NONE, collected, x -> x.burn(0, 0, -5, 5, 0));
    }

    /** "IllegalStateException when l is more than its amount" */
    private static void promise5LMoreThanTheAmount() {
        Edge.allowed("burn of all but 1", BurnTest::lent, x -> x.burn(0, 0, -5, 5, 999), 1);
        Edge.allowed("burn of all", BurnTest::lent, x -> x.burn(0, 0, -5, 5, 1000), 0);
        Edge.refused("burn of 1 too many", Edge.STATE, BurnTest::lent, x -> x.burn(0, 0, -5, 5, 1001));
        Edge.refused("burn of the greatest int", Edge.STATE, BurnTest::lent,
                x -> x.burn(0, 0, -5, 5, Integer.MAX_VALUE));
        Edge.allowed("burn of 0 of 0", () -> burnt(-5, 5, 1000), x -> x.burn(0, 0, -5, 5, 0), 0);
        Edge.refused("burn of 1 of 0", Edge.STATE, () -> burnt(-5, 5, 1000), x -> x.burn(0, 0, -5, 5, 1));
        Edge.Maker most = () -> {
            Counted x = rich();
            x.mint(0, 0, 0, 1, 50000000);
            return x;
        };
        Edge.allowed("burn of the most", most, x -> x.burn(0, 0, 0, 1, 50000000), 0);
        Edge.refused("burn of 1 more than the most", Edge.STATE, most, x -> x.burn(0, 0, 0, 1, 50000001));
    }

    /** "of several exceptions the one that stands first in the throws clause is thrown" */
    private static void promise5OfSeveralExceptionsTheFirst() {
        Edge.refused("owner before l", Edge.INDEX, BurnTest::lent, x -> x.burn(4, 0, -5, 5, -1));
        Edge.refused("pool before l", Edge.INDEX, BurnTest::lent, x -> x.burn(0, 2, -5, 5, -1));
        Edge.refused("hi before l", Edge.INDEX, BurnTest::lent, x -> x.burn(0, 0, -5, 41, -1));
        Edge.refused("lo before the order", Edge.INDEX, BurnTest::lent, x -> x.burn(0, 0, 41, 5, 1));
        Edge.refused("hi before none", Edge.INDEX, BurnTest::lent, x -> x.burn(0, 0, 5, 41, 1));
        Edge.refused("owner before too many", Edge.INDEX, BurnTest::lent, x -> x.burn(-1, 0, -5, 5, 1001));
        Edge.refused("l before none", Edge.ARGUMENT, BurnTest::lent, x -> x.burn(0, 0, -5, 6, -1));
        Edge.refused("order before none", Edge.ARGUMENT, BurnTest::lent, x -> x.burn(0, 0, 7, 7, 1));
        Edge.refused("order before too many", Edge.ARGUMENT, BurnTest::lent,
                x -> x.burn(0, 0, 5, -5, 1001));
        Edge.refused("none before too many", Edge.NONE, BurnTest::lent,
                x -> x.burn(0, 1, -5, 5, Integer.MAX_VALUE));
    }
}
