/** The boundaries in the document's terms of positions, of settling and adding, and of worth (promises 4 to 6). */
public final class TermsTest {
    private static final int POWER_OF_2 = 1 << 20;

    public static void main(String[] args) {
        anObjectIsUsedFor512Calls();
        thereIsOnePositionAtMostWithTheseTicks();
        liquidityGrowsWhenLoIsNotAboveTheTickAndHiIs();
        worthHasNoneOfTheOtherToken();
        worthIs0WhereBothPricesAreTheSame();
        feesAreOwedWhereTheTickIsLoOrMoreAndLessThanHi();
        owedIsRoundedDown();
        insideGrowthsWrapBelow0();
        settlingTwiceOwesOnce();
        aNewPositionIsOwedNothingOfBefore();
        aTickThatIsUnsetForgets();
        aPositionWithoutAmountIsOwedNoMore();
        Check.finish("TermsTest");
    }

    /** "An object is used for at most 512 calls after it has been made": the last one is still right. */
    private static void anObjectIsUsedFor512Calls() {
        Counted x = new Counted(0, 0);
        Counted y = new Counted(0, 0);
        for (int i = 1; i < Counted.MOST_CALLS; i++) {
            x.give(0, 0, 1);
            y.give(i % 4, 2, 100);
        }
        Check.same("the 512th call", x.give(0, 0, 1), Counted.MOST_CALLS);
        Check.same("it was the 512th", x.calls(), Counted.MOST_CALLS);
        Check.same("the 512th call of another", y.balance(3, 2), 12800);
        Counted z = Counted.rich(100, 100, 25000000);
        z.mint(0, 0, -40, 40, 1000000);
        for (int i = z.calls(); i < Counted.MOST_CALLS - 3; i++) {
            z.swap(1, 0, i % 2 == 0, 100, i % 2 == 0 ? -40 : 40);
        }
        Check.same("the 510th call", z.burn(0, 0, -40, 40, 0), 1000000);
        Check.same("the 511th call", z.position(0, 0, -40, 40, 1), 2479);
        Check.same("the 512th call after many swaps", z.collect(0, 0, -40, 40), 2479 + 2479);
    }

    /** "lo less than hi; there is one at most with these" */
    private static void thereIsOnePositionAtMostWithTheseTicks() {
        Counted x = Counted.rich(0, 0, 25000000);
        x.mint(0, 0, -5, 5, 10);
        Check.same("a second mint adds to the first", x.mint(0, 0, -5, 5, 7), 17);
        Check.same("with another owner it is another", x.mint(1, 0, -5, 5, 1), 1);
        Check.same("in the other pool it is another", x.mint(0, 1, -5, 5, 2), 2);
        Check.same("with another lo it is another", x.mint(0, 0, -6, 5, 3), 3);
        Check.same("with another hi it is another", x.mint(0, 0, -5, 6, 4), 4);
        Check.same("the first stays", x.position(0, 0, -5, 5, 0), 17);
        Check.same("all are lent", x.liquidity(0), 17 + 1 + 3 + 4);
    }

    /** Nothing is lent in pool 0, whose tick this is, with the price ROOT(tick); all owners have enough. */
    private static Counted atRoot(int tick) {
        Counted x = Counted.rich(0, 0, 25000000);
        if (tick != 0) {
            x.swap(0, 0, tick < 0, 1, tick);
        }
        return x;
    }

    /** Nothing is lent in range in pool 0, the price is ROOT(tick + 1), but this is its tick: it was crossed. */
    private static Counted crossed(int tick) {
        Counted x = Counted.rich(0, 0, 25000000);
        x.mint(3, 0, tick + 1, tick + 2, 1);
        if (tick >= -1) {
            x.swap(3, 0, false, 100, tick + 2);
        }
        x.swap(3, 0, true, 100, tick + 1);
        Check.same("the crossed tick", x.tick(0), tick);
        Check.same("its price", x.price(0), Model.root(tick + 1).longValueExact());
        return x;
    }

    private static void lends(Counted x, int lo, int hi, boolean inRange) {
        String what = "of " + lo + " .. " + hi + " at tick " + x.tick(0);
        long before = x.liquidity(0);
        x.mint(0, 0, lo, hi, 1000);
        Check.same("liquidity by a mint " + what, x.liquidity(0) - before, inRange ? 1000 : 0);
        x.burn(0, 0, lo, hi, 400);
        Check.same("liquidity by a burn " + what, x.liquidity(0) - before, inRange ? 600 : 0);
        x.burn(0, 0, lo, hi, 0);
        Check.same("liquidity by a burn of 0 " + what, x.liquidity(0) - before, inRange ? 600 : 0);
    }

    /** "Its amount grows by l, and, when lo <= tick < hi, the liquidity of the pool." */
    private static void liquidityGrowsWhenLoIsNotAboveTheTickAndHiIs() {
        for (int tick : new int[] {-38, -5, 0, 7, 38}) {
            lends(atRoot(tick), tick, tick + 1, true);
            lends(atRoot(tick), tick + 1, tick + 2, false);
            lends(atRoot(tick), tick - 1, tick, false);
            lends(atRoot(tick), tick - 1, tick + 1, true);
        }
        for (int tick : new int[] {-38, -5, 7, 37}) {
            lends(crossed(tick), tick, tick + 1, true);
            lends(crossed(tick), tick + 1, tick + 2, false);
            lends(crossed(tick), tick - 1, tick, false);
            lends(crossed(tick), tick - 1, tick + 1, true);
        }
        lends(atRoot(-40), -40, 40, false);
        lends(atRoot(-40), -40, -39, false);
        lends(atRoot(-39), -40, 40, true);
        lends(atRoot(-39), -40, -39, false);
        lends(atRoot(39), 39, 40, true);
        lends(atRoot(40), 39, 40, false);
        lends(atRoot(40), -40, 40, false);
    }

    private static void costs(Counted x, int lo, int hi, long near, long far) {
        String what = lo + " .. " + hi + " at tick " + x.tick(0);
        long nearBefore = x.held(0);
        long farBefore = x.held(1);
        x.mint(0, 0, lo, hi, 1000000);
        Check.same("near paid for " + what, x.held(0) - nearBefore, near);
        Check.same("far paid for " + what, x.held(1) - farBefore, far);
        x.burn(0, 0, lo, hi, 1000000);
        Check.same("near owed for " + what, x.position(0, 0, lo, hi, 1), near == 0 ? 0 : near - 1);
        Check.same("far owed for " + what, x.position(0, 0, lo, hi, 2), far == 0 ? 0 : far - 1);
    }

    /** "of near when the tick is less than lo ... of far when it is hi or more ... and 0 of the other" */
    private static void worthHasNoneOfTheOtherToken() {
        costs(atRoot(0), 1, 2, 29385, 0);
        costs(atRoot(0), -2, -1, 0, 29385);
        costs(atRoot(0), -1, 0, 0, 30304);
        costs(atRoot(0), 0, 1, 30304, 0);
        costs(atRoot(0), -1, 1, 30304, 30304);
        costs(crossed(-5), -5, -4, 0, 26794);
        costs(crossed(-5), -4, -3, 34273, 0);
        costs(crossed(-5), -5, -3, 34273, 26794);
        costs(atRoot(-40), -40, -39, 103764, 0);
        costs(atRoot(-39), -40, -39, 0, 9127);
        costs(atRoot(40), 39, 40, 0, 103764);
        costs(atRoot(39), 39, 40, 9127, 0);
    }

    /** "(and 0 where both prices are the same)": a worth of nothing is not rounded up to 1. */
    private static void worthIs0WhereBothPricesAreTheSame() {
        costsOne(atRoot(0), 0, 1, 1, 0);
        costsOne(atRoot(0), -1, 0, 0, 1);
        costsOne(crossed(-1), -1, 0, 0, 1);
        costsOne(crossed(-1), 0, 1, 1, 0);
        costsOne(crossed(-1), -1, 1, 1, 1);
        costsOne(crossed(7), 7, 8, 0, 1);
        costsOne(crossed(7), 8, 9, 1, 0);
    }

    private static void costsOne(Counted x, int lo, int hi, long near, long far) {
        String what = "1 of " + lo + " .. " + hi + " at tick " + x.tick(0);
        long nearBefore = x.held(0);
        long farBefore = x.held(1);
        x.mint(0, 0, lo, hi, 1);
        Check.same("near paid for " + what, x.held(0) - nearBefore, near);
        Check.same("far paid for " + what, x.held(1) - farBefore, far);
    }

    private static void owes(Counted x, int lo, int hi, long near, long far) {
        x.burn(0, 0, lo, hi, 0);
        String what = lo + " .. " + hi + " at tick " + x.tick(0);
        Check.same("near owed to " + what, x.position(0, 0, lo, hi, 1), near);
        Check.same("far owed to " + what, x.position(0, 0, lo, hi, 2), far);
    }

    /** "BELOW(t) ... when the pool's tick is t or more", "ABOVE(t) ... when the tick is less than t" */
    private static void feesAreOwedWhereTheTickIsLoOrMoreAndLessThanHi() {
        Counted x = Counted.rich(100, 0, 25000000);
        for (int lo = -1; lo <= 1; lo++) {
            x.mint(0, 0, lo, lo + 1, POWER_OF_2);
        }
        x.mint(0, 0, -1, 1, POWER_OF_2);
        x.swap(1, 0, false, 2000, 40);
        owes(x, -1, 0, 0, 0);
        owes(x, 0, 1, 0, 100);
        owes(x, 1, 2, 0, 0);
        owes(x, -1, 1, 0, 100);
        x.swap(1, 0, true, 10000000, 0);
        Check.same("0 was crossed", x.tick(0), -1);
        owes(x, -1, 0, 0, 0);
        owes(x, 0, 1, 100, 100);
        owes(x, 1, 2, 0, 0);
        owes(x, -1, 1, 100, 100);
        x.swap(1, 0, true, 1, -40);
        x.swap(1, 0, true, 1, -40);
        Check.same("the price stands at ROOT(0)", x.price(0), 4294967296L);
        owes(x, -1, 0, 1, 0);
        owes(x, 0, 1, 100, 100);
        owes(x, 1, 2, 0, 0);
        owes(x, -1, 1, 101, 100);
    }

    /** "owed grows by (d * amount) / 2 to the power of 32", of a fee of 100 that was a quotient once before. */
    private static void owedIsRoundedDown() {
        owedOfAFeeOf100(POWER_OF_2 - 1, 409600, 99);
        owedOfAFeeOf100(POWER_OF_2, 409600, 100);
        owedOfAFeeOf100(POWER_OF_2 + 1, 409599, 99);
        owedBeside(4940538, 9557, 89);
        owedBeside(4940539, 9556, 88);
    }

    /** 9557 * 40000000 is a little more than 89 times 2^32, 9556 * 40000000 a little less. */
    private static void owedBeside(int others, long growth, long due) {
        Counted x = Counted.rich(100, 0, 25000000);
        x.mint(0, 0, -1, 1, 40000000);
        x.mint(3, 0, -1, 1, others);
        x.swap(1, 0, true, 1000, -40);
        Check.same("growth beside " + others, x.growth(0, 0), growth);
        x.burn(0, 0, -1, 1, 0);
        Check.same("owed beside " + others, x.position(0, 0, -1, 1, 1), due);
    }

    private static void owedOfAFeeOf100(int l, long growth, long due) {
        Counted x = Counted.rich(100, 0, 25000000);
        x.mint(0, 0, -40, 40, l);
        x.swap(1, 0, true, 1000, -40);
        Check.same("growth of a fee of 100 by " + l, x.growth(0, 0), growth);
        x.burn(0, 0, -40, 40, 0);
        Check.same("owed of it to " + l, x.position(0, 0, -40, 40, 1), due);
    }

    /**
     * "Growths and outsides are longs that wrap.": -3 was set before there was growth, -5 after it, both
     * below the tick, so that the inside growth of -5 .. -3 begins at -4294967, and later passes 0.
     */
    private static void insideGrowthsWrapBelow0() {
        Counted x = Counted.rich(100, 0, 25000000);
        x.mint(3, 0, -40, 40, 1000000);
        x.mint(1, 0, -10, -3, 1000);
        x.swap(2, 0, true, 10000, -40);
        Check.same("growth before", x.growth(0, 0), 4294967);
        x.mint(0, 0, -5, -3, 500000);
        owes(x, -5, -3, 0, 0);
        x.swap(2, 0, true, 10000000, -3);
        Check.same("it is in range now", x.liquidity(0), 1501000);
        Check.same("growth when it comes into range", x.growth(0, 0), 46153718);
        owes(x, -5, -3, 0, 0);
        x.swap(2, 0, true, 5000, -40);
        Check.same("growth while the inside growth is below 0", x.growth(0, 0), 46153718 + 1430701);
        owes(x, -5, -3, 1430701L * 500000 >> 32, 0);
        x.swap(2, 0, true, 50000, -40);
        Check.same("growth while it passes 0", x.growth(0, 0), 47584419 + 14307019);
        owes(x, -5, -3, 166 + (14307019L * 500000 >> 32), 0);
    }

    /** "and INSIDE becomes the inside growth" */
    private static void settlingTwiceOwesOnce() {
        Counted x = Counted.rich(100, 0, 25000000);
        x.mint(0, 0, -40, 40, POWER_OF_2);
        x.swap(1, 0, true, 1000, -40);
        x.swap(1, 0, false, 3000, 40);
        owes(x, -40, 40, 100, 300);
        owes(x, -40, 40, 100, 300);
        x.mint(0, 0, -40, 40, POWER_OF_2);
        owes(x, -40, 40, 100, 300);
        x.swap(1, 0, true, 2000, -40);
        owes(x, -40, 40, 300, 300);
    }

    /** "a new one having amount, INSIDE and owed 0" */
    private static void aNewPositionIsOwedNothingOfBefore() {
        Counted x = Counted.rich(100, 0, 25000000);
        x.mint(3, 0, -40, 40, POWER_OF_2);
        x.swap(1, 0, true, 10000, -40);
        x.swap(1, 0, false, 10000, 40);
        for (int lo : new int[] {-40, -7, -1, 0, 3}) {
            x.mint(0, 0, lo, 40, POWER_OF_2);
            owes(x, lo, 40, 0, 0);
        }
    }

    /** Its amount is 0 while growth grows, and a mint settles it before its amount grows. */
    private static void aPositionWithoutAmountIsOwedNoMore() {
        Counted x = Counted.rich(100, 0, 25000000);
        x.mint(3, 0, -40, 40, POWER_OF_2);
        x.mint(0, 0, 1, 2, 1000);
        x.burn(0, 0, 1, 2, 1000);
        x.swap(1, 0, false, 50000, 40);
        Check.same("the price is between its ticks", x.tick(0), 1);
        owes(x, 1, 2, 29, 0);
        x.swap(1, 0, false, 1000, 40);
        x.mint(0, 0, 1, 2, POWER_OF_2);
        owes(x, 1, 2, 29, 0);
        x.swap(1, 0, false, 2000, 40);
        owes(x, 1, 2, 29, 100);
    }

    /** "A tick whose gross is 0 now has outsides and net 0." */
    private static void aTickThatIsUnsetForgets() {
        Counted x = Counted.rich(100, 0, 25000000);
        x.mint(3, 0, -40, 40, POWER_OF_2);
        x.mint(0, 0, -5, 5, POWER_OF_2);
        x.swap(1, 0, true, 10000000, -6);
        x.swap(1, 0, false, 10000000, 6);
        x.burn(0, 0, -5, 5, POWER_OF_2);
        x.collect(0, 0, -5, 5);
        x.swap(1, 0, true, 10000000, 0);
        Check.same("nothing is crossed where it was", x.liquidity(0), POWER_OF_2);
        x.mint(0, 0, -5, 5, POWER_OF_2);
        Check.same("lent again", x.liquidity(0), 2 * POWER_OF_2);
        owes(x, -5, 5, 0, 0);
        x.swap(1, 0, false, 2000, 40);
        owes(x, -5, 5, 0, 100);
        x.swap(1, 0, true, 10000000, -6);
        Check.same("-5 is crossed with what is lent again", x.liquidity(0), POWER_OF_2);
    }
}
