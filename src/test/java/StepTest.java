/** Promise 7 (swap), step by step: the boundaries that the document's term of a swap names. */
public final class StepTest {
    private static final long ROOT_OF_40 = 14706804614L;
    private static final long ROOT_OF_MINUS_40 = 1254299944L;
    private static final long ROOT_OF_1 = 4429185024L;
    private static final long ROOT_OF_MINUS_1 = 4164816772L;
    private static final long ROOT_OF_0 = 4294967296L;

    public static void main(String[] args) {
        rootsOfAllTicks();
        stepsEndWhenRestIs0();
        stepsEndWhenThePriceIsTheLimit();
        nextDownIsNotAboveTheTick();
        nextUpIsAboveTheTick();
        nextIsMinus40WhenThereIsNone();
        nextIs40WhenThereIsNone();
        targetIsTheLimitWhereThatIsNearer();
        exactInReachesTheTargetWhenRIsNotLessThanNeeded();
        paidOutReachesTheTargetWhenRestIsNotLessThanHad();
        paidOutIsNotMoreThanRest();
        bothQuotientsOfNearAreRounded();
        theMostLiquidityAtTheHighestPrice();
        feeIsTheRestWhenTheTargetIsNotReached();
        feeIsRoundedUpWhenTheTargetIsReached();
        growthGrowsWhenLiquidityIsNot0();
        aTickIsSetWhenItsGrossIsNot0();
        crossingChangesTheLiquidityBothWays();
        crossingAtTheLimit();
        crossingAsManyTicksAsCanBeSet();
        tickStaysWhenThePriceStays();
        tickIsTheGreatestWithRootNotAboveThePrice();
        Check.finish("StepTest");
    }

    /** Owner 0 has lent so much between two ticks of pool 0; all owners have enough. */
    private static Counted lent(int fee, int lo, int hi, int l) {
        Counted x = Counted.rich(fee, 0, 25000000);
        x.mint(0, 0, lo, hi, l);
        return x;
    }

    /** Owner 1 swaps in pool 0; due are: got, paid, and then price, tick, liquidity. */
    private static void swapped(Counted x, boolean down, int amount, int limit, long... due) {
        String what = "swap(1, 0, " + down + ", " + amount + ", " + limit + ")";
        Check.same(what, x.swap(1, 0, down, amount, limit), due[0]);
        Check.same("paid in " + what, x.paid(), due[1]);
        Check.same("price after " + what, x.price(0), due[2]);
        Check.same("tick after " + what, x.tick(0), due[3]);
        Check.same("liquidity after " + what, x.liquidity(0), due[4]);
    }

    private static void rootsOfAllTicks() {
        Counted x = new Counted(0, 0);
        for (int t = -1; t >= -40; t--) {
            Check.same("empty swap down to " + t, x.swap(0, 0, true, 1, t), 0);
            Check.same("ROOT(" + t + ")", x.price(0), Model.root(t).longValueExact());
            Check.same("tick at ROOT(" + t + ")", x.tick(0), t == -40 ? -41 : t);
        }
        Check.same("ROOT(-40)", x.price(0), ROOT_OF_MINUS_40);
        for (int t = -39; t <= 40; t++) {
            Check.same("empty swap up to " + t, x.swap(0, 0, false, -1, t), 0);
            Check.same("ROOT(" + t + ") again", x.price(0), Model.root(t).longValueExact());
            Check.same("tick at ROOT(" + t + ") again", x.tick(0), t);
        }
        Check.same("ROOT(40)", x.price(0), ROOT_OF_40);
    }

    /** "STEPS are made until REST is 0": one more, and the price runs on where nothing is lent. */
    private static void stepsEndWhenRestIs0() {
        swapped(lent(0, -1, 0, 3201), true, 101, -40, 96, 101, ROOT_OF_MINUS_1, -2, 0);
        swapped(lent(0, -1, 0, 3201), true, 102, -40, 96, 101, ROOT_OF_MINUS_40, -41, 0);
        swapped(lent(0, 0, 1, 3201), false, 101, 40, 97, 101, ROOT_OF_1, 1, 0);
        swapped(lent(0, 0, 1, 3201), false, 102, 40, 97, 101, ROOT_OF_40, 40, 0);
        swapped(lent(100, -1, 0, 3201), true, 113, -40, 96, 113, ROOT_OF_MINUS_1, -2, 0);
        swapped(lent(100, -1, 0, 3201), true, 114, -40, 96, 113, ROOT_OF_MINUS_40, -41, 0);
        swapped(lent(0, -1, 0, 3210), true, -97, -40, 97, 101, ROOT_OF_MINUS_1, -2, 0);
        swapped(lent(0, -1, 0, 3210), true, -98, -40, 97, 101, ROOT_OF_MINUS_40, -41, 0);
        swapped(lent(0, 0, 1, 3210), false, -97, 40, 97, 101, ROOT_OF_1, 1, 0);
        swapped(lent(0, 0, 1, 3210), false, -98, 40, 97, 101, ROOT_OF_40, 40, 0);
    }

    /** "or the price S is the limit": there REST is left, and is not paid. */
    private static void stepsEndWhenThePriceIsTheLimit() {
        swapped(lent(0, -40, 40, 1000000), true, 31250, -1, 30303, 31250, ROOT_OF_MINUS_1, -1, 1000000);
        swapped(lent(0, -40, 40, 1000000), true, 31251, -1, 30303, 31250, ROOT_OF_MINUS_1, -1, 1000000);
        swapped(lent(0, -40, 40, 1000000), true, 100000000, -1, 30303, 31250, ROOT_OF_MINUS_1, -1, 1000000);
        swapped(lent(0, -40, 40, 1000000), true, -30304, -1, 30303, 31250, ROOT_OF_MINUS_1, -1, 1000000);
        swapped(lent(0, -40, 40, 1000000), false, 31250, 1, 30303, 31250, ROOT_OF_1, 1, 1000000);
        swapped(lent(0, -40, 40, 1000000), false, 31251, 1, 30303, 31250, ROOT_OF_1, 1, 1000000);
        swapped(lent(0, -40, 40, 1000000), false, -30304, 1, 30303, 31250, ROOT_OF_1, 1, 1000000);
    }

    /** Owner 0 has lent 5000 between 0 and 5, and the price came back to ROOT(0), crossing 0. */
    private static Counted crossedDownAt0() {
        Counted x = lent(0, 0, 5, 5000);
        x.swap(1, 0, false, 100, 5);
        swapped(x, true, 100000000, 0, 99, 99, ROOT_OF_0, -1, 0);
        return x;
    }

    /** "down, the greatest that is set and not above the pool's tick" */
    private static void nextDownIsNotAboveTheTick() {
        Counted at = lent(0, -5, 0, 5000);
        Check.same("hi is not in range", at.liquidity(0), 0);
        at.swap(1, 0, true, 1, -40);
        Check.same("a set tick that is the pool's is next", at.liquidity(0), 5000);
        Check.same("and was crossed", at.tick(0), -1);
        Counted above = crossedDownAt0();
        swapped(above, true, 1, -3, 0, 0, Model.root(-3).longValueExact(), -3, 0);
        Counted two = lent(0, -5, 5, 5000);
        two.mint(0, 0, -3, 3, 700);
        two.swap(1, 0, true, 100000000, -4);
        Check.same("the greatest comes first", two.liquidity(0), 5000);
    }

    /** "up, the least that is set and above it" */
    private static void nextUpIsAboveTheTick() {
        Counted at = lent(0, 0, 5, 5000);
        Check.same("lo is in range", at.liquidity(0), 5000);
        at.swap(1, 0, false, 1, 40);
        Check.same("a set tick that is the pool's is not next", at.liquidity(0), 5000);
        Counted above = crossedDownAt0();
        above.swap(1, 0, false, 1, 40);
        Check.same("a set tick that is 1 more is next", above.liquidity(0), 5000);
        Check.same("and was crossed", above.tick(0), 0);
        Counted two = lent(0, -5, 5, 5000);
        two.mint(0, 0, -3, 3, 700);
        two.swap(1, 0, false, 100000000, 4);
        Check.same("the least comes first", two.liquidity(0), 5000);
    }

    /** "or -40 when there is none": reached, it lies above the tick, set or not. */
    private static void nextIsMinus40WhenThereIsNone() {
        swapped(new Counted(0, 0), true, 1, -40, 0, 0, ROOT_OF_MINUS_40, -41, 0);
        swapped(new Counted(0, 0), true, 1, -39, 0, 0, Model.root(-39).longValueExact(), -39, 0);
        swapped(lent(0, -39, -38, 7), true, 100000000, -40, 0, 1, ROOT_OF_MINUS_40, -41, 0);
        swapped(lent(0, -40, -39, 7), true, 100000000, -40, 0, 1, ROOT_OF_MINUS_40, -41, 0);
        Counted back = new Counted(0, 0);
        back.swap(1, 0, true, 1, -40);
        swapped(back, false, 1, -39, 0, 0, Model.root(-39).longValueExact(), -39, 0);
        Counted set = lent(0, -40, 40, 1000);
        set.swap(1, 0, true, 100000000, -40);
        Check.same("-40 is crossed where it is set", set.liquidity(0), 0);
        set.swap(1, 0, false, 1, 40);
        Check.same("and crossed back", set.liquidity(0), 1000);
        Check.same("with its tick", set.tick(0), -40);
    }

    /** "or 40" */
    private static void nextIs40WhenThereIsNone() {
        swapped(new Counted(0, 0), false, 1, 40, 0, 0, ROOT_OF_40, 40, 0);
        swapped(new Counted(0, 0), false, 1, 39, 0, 0, Model.root(39).longValueExact(), 39, 0);
        swapped(lent(0, 38, 39, 7), false, 100000000, 40, 0, 1, ROOT_OF_40, 40, 0);
        swapped(lent(0, 39, 40, 7), false, 100000000, 40, 0, 1, ROOT_OF_40, 40, 0);
        Counted back = new Counted(0, 0);
        back.swap(1, 0, false, 1, 40);
        swapped(back, true, 1, 39, 0, 0, Model.root(39).longValueExact(), 39, 0);
        Counted set = lent(0, -40, 40, 1000);
        set.swap(1, 0, false, 100000000, 40);
        Check.same("40 is crossed where it is set", set.liquidity(0), 0);
        set.swap(1, 0, true, 1, -40);
        Check.same("and crossed back", set.liquidity(0), 1000);
        Check.same("with its tick", set.tick(0), 39);
    }

    private static Counted around() {
        Counted x = lent(0, -40, 40, 1000000);
        x.mint(0, 0, -3, 3, 1000000);
        return x;
    }

    /** "TARGET is ROOT(next), but the limit where that is nearer to S." */
    private static void targetIsTheLimitWhereThatIsNearer() {
        swapped(around(), true, 20000000, -2, 119375, 126954, 4038610204L, -2, 2000000);
        swapped(around(), true, 20000000, -3, 176364, 193421, 3916228077L, -4, 1000000);
        swapped(around(), true, 20000000, -4, 203994, 227694, 3797554499L, -4, 1000000);
        swapped(around(), false, 20000000, 2, 119375, 126954, 4567597056L, 2, 2000000);
        swapped(around(), false, 20000000, 3, 176364, 193421, 4710334464L, 3, 1000000);
        swapped(around(), false, 20000000, 4, 203994, 227694, 4857532416L, 4, 1000000);
    }

    /** "When r is not less than needed, the new price is TARGET": from here to the next tick 101 are needed. */
    private static void exactInReachesTheTargetWhenRIsNotLessThanNeeded() {
        swapped(lent(0, -1, 0, 3201), true, 100, -40, 96, 100, 4164856200L, -1, 3201);
        swapped(lent(0, -1, 0, 3201), true, 101, -40, 96, 101, ROOT_OF_MINUS_1, -2, 0);
        swapped(lent(0, 0, 1, 3201), false, 100, 40, 96, 100, 4429143094L, 0, 3201);
        swapped(lent(0, 0, 1, 3201), false, 101, 40, 97, 101, ROOT_OF_1, 1, 0);
        swapped(lent(1, -1, 0, 3201), true, 101, -40, 96, 101, 4164856200L, -1, 3201);
        swapped(lent(1, -1, 0, 3201), true, 102, -40, 96, 102, ROOT_OF_MINUS_1, -2, 0);
        swapped(lent(1, 0, 1, 3201), false, 101, 40, 96, 101, 4429143094L, 0, 3201);
        swapped(lent(1, 0, 1, 3201), false, 102, 40, 97, 102, ROOT_OF_1, 1, 0);
        swapped(lent(100, -1, 0, 3201), true, 112, -40, 96, 112, 4164856200L, -1, 3201);
        swapped(lent(100, -1, 0, 3201), true, 113, -40, 96, 113, ROOT_OF_MINUS_1, -2, 0);
        swapped(lent(100, 0, 1, 3201), false, 112, 40, 96, 112, 4429143094L, 0, 3201);
        swapped(lent(100, 0, 1, 3201), false, 113, 40, 97, 113, ROOT_OF_1, 1, 0);
    }

    /** "When REST is not less than had, the new price is TARGET": from here to the next tick 97 are had. */
    private static void paidOutReachesTheTargetWhenRestIsNotLessThanHad() {
        swapped(lent(0, -1, 0, 3210), true, -96, -40, 96, 99, 4166519675L, -1, 3210);
        swapped(lent(0, -1, 0, 3210), true, -97, -40, 97, 101, ROOT_OF_MINUS_1, -2, 0);
        swapped(lent(0, 0, 1, 3210), false, -96, 40, 96, 99, 4427374766L, 0, 3210);
        swapped(lent(0, 0, 1, 3210), false, -97, 40, 97, 101, ROOT_OF_1, 1, 0);
        swapped(lent(100, -1, 0, 3210), true, -96, -40, 96, 110, 4166519675L, -1, 3210);
        swapped(lent(100, -1, 0, 3210), true, -97, -40, 97, 113, ROOT_OF_MINUS_1, -2, 0);
        swapped(lent(100, 0, 1, 3210), false, -96, 40, 96, 110, 4427374766L, 0, 3210);
        swapped(lent(100, 0, 1, 3210), false, -97, 40, 97, 113, ROOT_OF_1, 1, 0);
    }

    /** At the lowest price 400000000 are lent: one more of price is more than one of near. */
    private static Counted crowdedBottom() {
        Counted x = new Counted(0, 0);
        x.give(1, 0, 97000000);
        for (int owner = 0; owner < 4; owner++) {
            x.give(owner, 1, 25000000);
            x.mint(owner, 0, -40, -39, 50000000);
            x.mint(owner, 0, -40, -38, 50000000);
        }
        swapped(x, true, 97000000, -40, 5532778, 61629217, ROOT_OF_MINUS_40, -41, 0);
        return x;
    }

    /** "but not more than REST when not exact in": between ROOT(-40) and 11 more there are 12 of near. */
    private static void paidOutIsNotMoreThanRest() {
        swapped(crowdedBottom(), false, -10, 40, 10, 1, ROOT_OF_MINUS_40 + 10, -40, 400000000);
        swapped(crowdedBottom(), false, -11, 40, 11, 2, ROOT_OF_MINUS_40 + 11, -40, 400000000);
        swapped(crowdedBottom(), false, -12, 40, 12, 2, ROOT_OF_MINUS_40 + 11, -40, 400000000);
    }

    /** "both quotients up when the sum is up", and both down when it is not. */
    private static void bothQuotientsOfNearAreRounded() {
        Counted taken = lent(0, 3, 10, 6917887);
        taken.swap(1, 0, false, 100000000, 11);
        swapped(taken, true, 100000000, 3, 1823590, 1222352, Model.root(3).longValueExact(), 2, 0);
        swapped(lent(0, 10, 40, 6521648), false, 100000000, 40, 2889638, 13459895, ROOT_OF_40, 40, 0);
    }

    /** Twelve times 50000000 near ROOT(40): liquidity times price comes near 2^63. */
    private static void theMostLiquidityAtTheHighestPrice() {
        Counted x = new Counted(0, 0);
        for (int owner = 0; owner < 4; owner++) {
            x.give(owner, 0, 25000000);
            for (int lo = 37; lo < 40; lo++) {
                x.mint(owner, 0, lo, 40, 50000000);
            }
        }
        x.give(1, 1, 97000000);
        swapped(x, false, 97000000, 40, 9021250, 97000000, 14527706239L, 39, 600000000);
        swapped(x, true, 1000000, -40, 11377135, 1000000, 14446265533L, 39, 600000000);
        swapped(x, true, -10000000, -40, 10000000, 888313, 14374682744L, 39, 600000000);
        swapped(x, false, 10000000, 40, 888312, 10000000, 14446265532L, 39, 600000000);
        swapped(x, false, -500000, 40, 500000, 5672579, 14486871428L, 39, 600000000);
        swapped(x, true, 1, -40, 11, 1, 14486871347L, 39, 600000000);
        swapped(x, false, -1, 40, 1, 12, 14486871429L, 39, 600000000);
        swapped(x, false, 1, 40, 0, 1, 14486871436L, 39, 600000000);
    }

    /** "The step's fee is REST less what is taken in, when exact in and the new price is not TARGET" */
    private static void feeIsTheRestWhenTheTargetIsNotReached() {
        growsBy(lent(100, 0, 1, 3201), false, 110, 11 * (1L << 32) / 3201);
        growsBy(lent(100, 0, 1, 3201), false, 111, 12 * (1L << 32) / 3201);
        growsBy(lent(100, 0, 1, 3201), false, 112, 12 * (1L << 32) / 3201);
        growsBy(lent(1, -40, 40, 1000000), true, 1, (1L << 32) / 1000000);
        growsBy(lent(0, -40, 40, 1000000), true, 1, 0);
        Counted x = crowdedBottom();
        swapped(x, false, -20000000, 40, 20000000, 1731018, 1272886600L, -40, 400000000);
        swapped(x, true, 1, -40, 0, 1, 1272886600L, -40, 400000000);
        Check.same("without a fee the price may stand still and 1 be left", x.growth(0, 0), 10);
        swapped(x, true, 2, -40, 0, 2, 1272886599L, -40, 400000000);
        Check.same("with 2 it moves, and nothing is left", x.growth(0, 0), 10);
    }

    private static void growsBy(Counted x, boolean down, int amount, long due) {
        x.swap(1, 0, down, amount, down ? -40 : 40);
        Check.same("growth by a swap of " + amount, x.growth(0, down ? 0 : 1), due);
        Check.same("growth of the other token", x.growth(0, down ? 1 : 0), 0);
    }

    /** "otherwise (taken in * f) / (1000 - f) up": of 9 just 1, of 10 a little more than 1. */
    private static void feeIsRoundedUpWhenTheTargetIsReached() {
        swapped(lent(100, 0, 1, 288), false, 1000, 40, 8, 10, ROOT_OF_40, 40, 0);
        swapped(lent(100, 0, 1, 289), false, 1000, 40, 8, 12, ROOT_OF_40, 40, 0);
        swapped(lent(100, 0, 1, 288), false, -1000, 40, 8, 10, ROOT_OF_40, 40, 0);
        swapped(lent(100, 0, 1, 289), false, -1000, 40, 8, 12, ROOT_OF_40, 40, 0);
        swapped(lent(0, 0, 1, 289), false, -1000, 40, 8, 10, ROOT_OF_40, 40, 0);
    }

    /** "When L is not 0, the growth of the token taken in grows by fee * 2^32 / L." */
    private static void growthGrowsWhenLiquidityIsNot0() {
        growsBy(lent(100, 0, 1, 1), false, 1000, 1L << 32);
        growsBy(lent(100, 0, 1, 3), false, 1000, (1L << 32) / 3);
        growsBy(lent(100, 0, 1, 4), false, 1000, 1L << 30);
        growsBy(lent(100, 1, 2, 1), true, 1000, 0);
        growsBy(lent(100, -1, 0, 1), false, 1000, 0);
    }

    /** At -5 one position ends and another begins, each with so much. */
    private static Counted meeting(int ending, int beginning) {
        Counted x = Counted.rich(0, 0, 25000000);
        x.mint(0, 0, -10, -5, 100);
        x.mint(1, 0, -5, 5, 100);
        x.burn(0, 0, -10, -5, 100 - ending);
        x.burn(1, 0, -5, 5, 100 - beginning);
        return x;
    }

    /** "it is SET when its gross is not 0": a set tick at the limit is crossed, another one is not. */
    private static void aTickIsSetWhenItsGrossIsNot0() {
        endsAt(meeting(100, 100), -6, 100);
        endsAt(meeting(1, 1), -6, 1);
        endsAt(meeting(1, 0), -6, 1);
        endsAt(meeting(0, 1), -6, 0);
        endsAt(meeting(0, 0), -5, 0);
    }

    private static void endsAt(Counted x, int tick, int liquidity) {
        x.swap(2, 0, true, 100000000, -5);
        Check.same("tick at the limit -5", x.tick(0), tick);
        Check.same("liquidity at the limit -5", x.liquidity(0), liquidity);
    }

    private static void crossingChangesTheLiquidityBothWays() {
        Counted x = lent(0, -40, 40, 1000000);
        x.mint(0, 0, -4, -2, 2000000);
        x.mint(0, 0, -2, 3, 4000000);
        Check.same("liquidity at 0", x.liquidity(0), 5000000);
        x.swap(1, 0, true, 20000000, -1);
        Check.same("down to -1", x.liquidity(0), 5000000);
        x.swap(1, 0, true, 20000000, -3);
        Check.same("down over -2", x.liquidity(0), 3000000);
        Check.same("tick after that", x.tick(0), -3);
        x.swap(1, 0, true, 20000000, -5);
        Check.same("down over -4", x.liquidity(0), 1000000);
        x.swap(1, 0, false, 20000000, -4);
        Check.same("up to -4, which is set", x.liquidity(0), 3000000);
        Check.same("tick there", x.tick(0), -4);
        x.swap(1, 0, false, 20000000, 5);
        Check.same("up over -2 and 3", x.liquidity(0), 1000000);
        x.swap(1, 0, true, 20000000, 2);
        Check.same("down over 3", x.liquidity(0), 5000000);
    }

    /** Twelve positions set at most 24 ticks, and a swap from end to end has a step to each of them. */
    private static void crossingAsManyTicksAsCanBeSet() {
        Counted x = Counted.rich(100, 0, 25000000);
        for (int i = 0; i < 12; i++) {
            x.mint(i % 4, 0, -36 + 6 * i, -33 + 6 * i, 1000 * (i + 1));
        }
        swapped(x, false, 25000000, 40, 3140, 10780, ROOT_OF_40, 40, 0);
        swapped(x, true, 25000000, -40, 10977, 7005, ROOT_OF_MINUS_40, -41, 0);
        Check.same("near growth over 24 ticks", x.growth(0, 0), 679373024);
        swapped(x, false, -25000000, 40, 6288, 12215, ROOT_OF_40, 40, 0);
        Check.same("far growth over 24 ticks", x.growth(0, 1), 1083046026);
        long[] near = {29, 49, 61, 68, 70, 70, 68, 65, 60, 56, 51, 46};
        long[] far = {3, 8, 15, 24, 37, 53, 151, 207, 279, 373, 495, 649};
        for (int i = 0; i < 12; i++) {
            x.burn(i % 4, 0, -36 + 6 * i, -33 + 6 * i, 0);
            Check.same("near owed", x.position(i % 4, 0, -36 + 6 * i, -33 + 6 * i, 1), near[i]);
            Check.same("far owed", x.position(i % 4, 0, -36 + 6 * i, -33 + 6 * i, 2), far[i]);
        }
    }

    private static void crossingAtTheLimit() {
        Counted x = around();
        x.swap(1, 0, true, 20000000, -3);
        Check.same("down to a limit that is set: it is crossed", x.liquidity(0), 1000000);
        Check.same("tick below it", x.tick(0), -4);
        Check.same("price at it", x.price(0), Model.root(-3).longValueExact());
        Check.refuses("down to where the price is", Edge.ARGUMENT, () -> x.swap(1, 0, true, 1, -3));
        Check.refuses("up to where the price is", Edge.ARGUMENT, () -> x.swap(1, 0, false, 1, -3));
        x.swap(1, 0, false, 1, 40);
        Check.same("up from there: it is crossed first", x.liquidity(0), 2000000);
        Check.same("tick above it", x.tick(0), -3);
    }

    /** "Otherwise, if the price changed, the tick becomes ...": where 1 is but a fee, both stand. */
    private static void tickStaysWhenThePriceStays() {
        Counted x = lent(1, -40, 40, 1000000);
        swapped(x, true, 1, -40, 0, 1, ROOT_OF_0, 0, 1000000);
        swapped(x, false, 1, 40, 0, 1, ROOT_OF_0, 0, 1000000);
        x.swap(1, 0, true, 20000000, -3);
        x.mint(1, 0, -3, 3, 1000000);
        Check.same("tick at ROOT(-3), not set before", x.tick(0), -3);
        Check.same("and in range", x.liquidity(0), 2000000);
        swapped(x, true, 1, -40, 0, 1, Model.root(-3).longValueExact(), -4, 1000000);
        swapped(x, true, 1, -40, 0, 1, Model.root(-3).longValueExact(), -4, 1000000);
        x.burn(1, 0, -3, 3, 1000000);
        swapped(x, false, 1, 40, 0, 1, Model.root(-3).longValueExact(), -4, 1000000);
        x.swap(1, 0, false, 2, 40);
        Check.same("with 2 the price moves, and the tick with it", x.tick(0), -3);
    }

    /** "the tick becomes the greatest t with ROOT(t) not above the new price": 100 lead just to a ROOT. */
    private static void tickIsTheGreatestWithRootNotAboveThePrice() {
        swapped(lent(0, -40, 40, 3200), true, 99, -40, 96, 99, 4166079221L, -1, 3200);
        swapped(lent(0, -40, 40, 3200), true, 100, -40, 96, 100, ROOT_OF_MINUS_1, -1, 3200);
        swapped(lent(0, -40, 40, 3200), true, 101, -40, 97, 101, 4163555089L, -2, 3200);
        swapped(lent(0, -40, 40, 3200), false, 99, 40, 96, 99, 4427842846L, 0, 3200);
        swapped(lent(0, -40, 40, 3200), false, 100, 40, 96, 100, ROOT_OF_1, 1, 3200);
        swapped(lent(0, -40, 40, 3200), false, 101, 40, 97, 101, 4430527201L, 1, 3200);
    }
}
