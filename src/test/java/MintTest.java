/** Promise 4 (mint). */
public final class MintTest {
    public static void main(String[] args) {
        promise4CostsWhatItIsWorthRoundedUp();
        promise4AfterThePriceMoved();
        promise4InsideATick();
        promise4ExactWorthIsNotRounded();
        promise4BothQuotientsOfNearAreRoundedUp();
        promise4AddsToAPositionAndSettlesIt();
        promise4OwnerOutOfRange();
        promise4PoolOutOfRange();
        promise4TickOutOfRange();
        promise4LoNotLessThanHi();
        promise4LNot1To50000000();
        promise4AmountWouldBeMoreThan50000000();
        promise4ThereWouldBe13Positions();
        promise4OneOwedOrLentIsStillAPosition();
        promise4OneWithoutAmountAndOwedNothingIsNone();
        promise4TooLittleOfAToken();
        promise4OfSeveralExceptionsTheFirst();
        Check.finish("MintTest");
    }

    private static Counted rich() {
        return Counted.rich(0, 0, 25000000);
    }

    private static void costs(Counted x, int pool, int lo, int hi, int l, long near, long far) {
        String what = "mint(0, " + pool + ", " + lo + ", " + hi + ", " + l + ")";
        long nearBefore = x.balance(0, pool);
        long farBefore = x.balance(0, pool + 1);
        long nearHeld = x.held(pool);
        long farHeld = x.held(pool + 1);
        x.mint(0, pool, lo, hi, l);
        Check.same("near paid for " + what, nearBefore - x.balance(0, pool), near);
        Check.same("far paid for " + what, farBefore - x.balance(0, pool + 1), far);
        Check.same("near held by " + what, x.held(pool) - nearHeld, near);
        Check.same("far held by " + what, x.held(pool + 1) - farHeld, far);
    }

    private static void promise4CostsWhatItIsWorthRoundedUp() {
        for (int pool = 0; pool < 2; pool++) {
            costs(rich(), pool, -10, 10, 1000000, 264877, 264877);
            costs(rich(), pool, -10, 10, 50000000, 13243819, 13243819);
            costs(rich(), pool, -10, 10, 1, 1, 1);
            costs(rich(), pool, 1, 5, 1000000, 112304, 0);
            costs(rich(), pool, -5, -1, 1000000, 0, 112304);
            costs(rich(), pool, 0, 5, 1000000, 142607, 0);
            costs(rich(), pool, -5, 0, 1000000, 0, 142607);
        }
        Counted x = rich();
        Check.same("mint answers the amount", x.mint(0, 1, -10, 10, 77), 77);
        Check.same("mint takes nothing of the third token", x.balance(0, 0), 25000000);
        Check.same("mint takes nothing of another owner", x.balance(1, 1), 25000000);
        Check.same("mint is no swap", x.paid(), 0);
    }

    private static void promise4AfterThePriceMoved() {
        Counted x = rich();
        x.swap(0, 0, true, 1, -40);
        Check.same("tick below all", x.tick(0), -41);
        costs(x, 0, -40, 40, 1, 4, 0);
        Counted y = rich();
        y.swap(0, 0, false, 1, 40);
        costs(y, 0, -40, 40, 1, 0, 4);
        Counted z = rich();
        z.mint(1, 0, -5, 5, 1000);
        z.swap(1, 0, true, 10000, -5);
        Check.same("tick below the crossed -5", z.tick(0), -6);
        costs(z, 0, -10, -5, 1000000, 0, 122270);
        costs(z, 0, -5, 0, 1000000, 166326, 0);
        Check.same("at tick -6 with the price ROOT(-5) -10 .. -5 is in range", z.liquidity(0), 1000000);
    }

    private static void promise4InsideATick() {
        Counted x = rich();
        x.mint(1, 0, -40, 40, 1000000);
        x.swap(1, 0, false, 1000, 40);
        Check.same("a price inside tick 0", x.price(0), 4299262263L);
        costs(x, 0, 0, 5, 1000000, 141608, 1000);
        costs(x, 0, -5, 0, 1000000, 0, 142607);
        costs(x, 0, 1, 5, 1000000, 112304, 0);
        Check.same("0 .. 5 is in range, -5 .. 0 and 1 .. 5 are not", x.liquidity(0), 2000000);
    }

    /** ROOT(1) is 33 / 32 of ROOT(0): between them l is worth just l / 33 of near or l / 32 of far. */
    private static void promise4ExactWorthIsNotRounded() {
        costs(rich(), 0, 0, 1, 32, 1, 0);
        costs(rich(), 0, 0, 1, 33, 1, 0);
        costs(rich(), 0, 0, 1, 34, 2, 0);
        costs(rich(), 0, 0, 1, 1056, 32, 0);
        costs(rich(), 0, 0, 1, 1057, 33, 0);
        costs(atTick1(), 0, 0, 1, 31, 0, 1);
        costs(atTick1(), 0, 0, 1, 32, 0, 1);
        costs(atTick1(), 0, 0, 1, 33, 0, 2);
        costs(atTick1(), 0, 0, 1, 1056, 0, 33);
        costs(atTick1(), 0, 0, 1, 1057, 0, 34);
        Counted y = rich();
        y.mint(1, 0, -40, 40, 6400);
        y.swap(1, 0, false, 100, 40);
        Check.same("a price of 65 * 2^26", y.price(0), 4362076160L);
        costs(y, 0, 0, 1, 2145, 32, 34);
    }

    /** "both quotients up when the sum is up": were the first one rounded down, it would be 1222351. */
    private static void promise4BothQuotientsOfNearAreRoundedUp() {
        costs(rich(), 0, 3, 10, 6917887, 1222352, 0);
    }

    private static Counted atTick1() {
        Counted x = rich();
        x.swap(0, 0, false, 1, 1);
        return x;
    }

    private static void promise4AddsToAPositionAndSettlesIt() {
        Counted x = Counted.rich(100, 0, 25000000);
        x.mint(0, 0, -10, 10, 1000000);
        x.swap(1, 0, true, 1000, -40);
        Check.same("growth of the fee of 100", x.growth(0, 0), 429496);
        Check.same("not settled yet", x.position(0, 0, -10, 10, 1), 0);
        Check.same("mint answers the whole amount", x.mint(0, 0, -10, 10, 500000), 1500000);
        Check.same("near owed: 429496 * 1000000 / 2^32", x.position(0, 0, -10, 10, 1), 99);
        Check.same("far owed", x.position(0, 0, -10, 10, 2), 0);
        Check.same("liquidity", x.liquidity(0), 1500000);
        x.mint(2, 0, -10, 10, 1);
        Check.same("another owner's is another position", x.position(2, 0, -10, 10, 0), 1);
        Check.same("a new one is owed nothing of before", x.position(2, 0, -10, 10, 1), 0);
        x.burn(2, 0, -10, 10, 0);
        Check.same("nor when it is settled", x.position(2, 0, -10, 10, 1), 0);
    }

    private static void promise4OwnerOutOfRange() {
        for (int owner = 0; owner < 4; owner++) {
            int o = owner;
            Edge.allowed("mint by owner " + o, MintTest::rich, x -> x.mint(o, 0, 0, 5, 7), 7);
        }
        for (int owner : Edge.OUT_OF_OWNERS) {
            Edge.refused("mint by owner " + owner, Edge.INDEX, MintTest::rich,
                    x -> x.mint(owner, 0, 0, 5, 7));
        }
    }

    private static void promise4PoolOutOfRange() {
        Edge.allowed("mint in pool 0", MintTest::rich, x -> x.mint(0, 0, 0, 5, 7), 7);
        Edge.allowed("mint in pool 1", MintTest::rich, x -> x.mint(0, 1, 0, 5, 7), 7);
        for (int pool : Edge.OUT_OF_POOLS) {
            Edge.refused("mint in pool " + pool, Edge.INDEX, MintTest::rich,
                    x -> x.mint(0, pool, 0, 5, 7));
        }
    }

    /** "TICKS are -40 .. 40." */
    private static void promise4TickOutOfRange() {
        Edge.allowed("mint from -40", MintTest::rich, x -> x.mint(0, 0, -40, 5, 7), 7);
        Edge.allowed("mint to 40", MintTest::rich, x -> x.mint(0, 0, 0, 40, 7), 7);
        Edge.allowed("mint from -40 to 40", MintTest::rich, x -> x.mint(0, 0, -40, 40, 7), 7);
        for (int tick : Edge.OUT_OF_TICKS) {
            Edge.refused("mint from " + tick, Edge.INDEX, MintTest::rich, x -> x.mint(0, 0, tick, 5, 7));
            Edge.refused("mint to " + tick, Edge.INDEX, MintTest::rich, x -> x.mint(0, 0, 0, tick, 7));
        }
        Edge.refused("mint from -41 to -40", Edge.INDEX, MintTest::rich, x -> x.mint(0, 0, -41, -40, 7));
        Edge.refused("mint from 40 to 41", Edge.INDEX, MintTest::rich, x -> x.mint(0, 0, 40, 41, 7));
    }

    /** "IllegalArgumentException when lo is not less than hi" */
    private static void promise4LoNotLessThanHi() {
        for (int hi : new int[] {-39, -1, 0, 1, 40}) {
            Edge.allowed("mint below " + hi, MintTest::rich, x -> x.mint(0, 0, hi - 1, hi, 7), 7);
            Edge.refused("mint from " + hi + " to it", Edge.ARGUMENT, MintTest::rich,
                    x -> x.mint(0, 0, hi, hi, 7));
        }
        Edge.refused("mint from -40 to it", Edge.ARGUMENT, MintTest::rich, x -> x.mint(0, 0, -40, -40, 7));
        Edge.refused("mint from 5 to 4", Edge.ARGUMENT, MintTest::rich, x -> x.mint(0, 0, 5, 4, 7));
        Edge.refused("mint from 40 to -40", Edge.ARGUMENT, MintTest::rich, x -> x.mint(0, 0, 40, -40, 7));
    }

    /** "l not 1 .. 50000000" */
    private static void promise4LNot1To50000000() {
        Edge.allowed("mint of 1", MintTest::rich, x -> x.mint(0, 0, 0, 1, 1), 1);
        Edge.allowed("mint of 50000000", MintTest::rich, x -> x.mint(0, 0, 0, 1, 50000000), 50000000);
        int[] wrong = {0, -1, -50000000, 50000001, Integer.MIN_VALUE, Integer.MAX_VALUE};
        for (int l : wrong) {
            Edge.refused("mint of " + l, Edge.ARGUMENT, MintTest::rich, x -> x.mint(0, 0, 0, 1, l));
            Edge.refused("mint of " + l + " to 9", Edge.ARGUMENT, () -> lent(9), x -> x.mint(0, 0, 0, 1, l));
        }
    }

    /** Owner 0 has lent so much between 0 and 1. */
    private static Counted lent(int l) {
        Counted x = rich();
        x.mint(0, 0, 0, 1, l);
        return x;
    }

    /** "or the amount would be more than 50000000" */
    private static void promise4AmountWouldBeMoreThan50000000() {
        Edge.allowed("1 to 49999999", () -> lent(49999999), x -> x.mint(0, 0, 0, 1, 1), 50000000);
        Edge.refused("2 to 49999999", Edge.ARGUMENT, () -> lent(49999999), x -> x.mint(0, 0, 0, 1, 2));
        Edge.allowed("49999999 to 1", () -> lent(1), x -> x.mint(0, 0, 0, 1, 49999999), 50000000);
        Edge.refused("50000000 to 1", Edge.ARGUMENT, () -> lent(1), x -> x.mint(0, 0, 0, 1, 50000000));
        Edge.refused("1 to 50000000", Edge.ARGUMENT, () -> lent(50000000), x -> x.mint(0, 0, 0, 1, 1));
        Edge.refused("50000000 to as much", Edge.ARGUMENT, () -> lent(50000000),
                x -> x.mint(0, 0, 0, 1, 50000000));
        Edge.allowed("as much by another owner", () -> lent(50000000),
                x -> x.mint(1, 0, 0, 1, 50000000), 50000000);
        Edge.allowed("as much in the other pool", () -> lent(50000000),
                x -> x.mint(0, 1, 0, 1, 50000000), 50000000);
        Edge.allowed("as much between other ticks", () -> lent(50000000),
                x -> x.mint(0, 0, 1, 2, 50000000), 50000000);
        Edge.Maker oneBurnt = () -> {
            Counted x = lent(50000000);
            x.burn(0, 0, 0, 1, 1);
            return x;
        };
        Edge.allowed("1 where 1 was burnt", oneBurnt, x -> x.mint(0, 0, 0, 1, 1), 50000000);
        Edge.refused("2 where 1 was burnt", Edge.ARGUMENT, oneBurnt, x -> x.mint(0, 0, 0, 1, 2));
    }

    /** So many positions in both pools together, of all owners. */
    private static Counted positions(int count) {
        Counted x = rich();
        for (int i = 1; i <= count; i++) {
            x.mint(i % 4, i % 2, -i, i, 10 * i);
        }
        return x;
    }

    /** "IllegalStateException when there would be 13 positions" */
    private static void promise4ThereWouldBe13Positions() {
        Edge.allowed("a 12th position", () -> positions(11), x -> x.mint(0, 0, -13, 13, 5), 5);
        Edge.allowed("a 12th in the other pool", () -> positions(11), x -> x.mint(0, 1, -13, 13, 5), 5);
        for (int owner = 0; owner < 4; owner++) {
            int o = owner;
            Edge.refused("a 13th in pool 0", Edge.STATE, () -> positions(12), x -> x.mint(o, 0, -13, 13, 5));
            Edge.refused("a 13th in pool 1", Edge.STATE, () -> positions(12), x -> x.mint(o, 1, -13, 13, 5));
        }
        Edge.refused("a 13th with another's ticks", Edge.STATE, () -> positions(12),
                x -> x.mint(1, 0, -12, 12, 5));
        Edge.refused("a 13th with the other pool's ticks", Edge.STATE, () -> positions(12),
                x -> x.mint(0, 1, -12, 12, 5));
        for (int i = 1; i <= 12; i++) {
            int n = i;
            Edge.allowed("more of position " + n + " of 12", () -> positions(12),
                    x -> x.mint(n % 4, n % 2, -n, n, 5), 10 * n + 5);
        }
    }

    /** Eleven positions, and a twelfth of owner 0 in pool 0, all of which is burnt. */
    private static Counted burntTwelfth(int lo, int hi, int l) {
        Counted x = positions(11);
        x.mint(0, 0, lo, hi, l);
        x.burn(0, 0, lo, hi, l);
        return x;
    }

    /** "one that has no amount any more and nothing owed is none": amount or owed is enough to be one. */
    private static void promise4OneOwedOrLentIsStillAPosition() {
        Counted near = burntTwelfth(0, 40, 1000);
        Check.same("owed of near alone", near.position(0, 0, 0, 40, 2), 0);
        Check.holds("near is owed", near.position(0, 0, 0, 40, 1) > 0);
        Edge.refused("a 13th while near is owed", Edge.STATE, () -> burntTwelfth(0, 40, 1000),
                x -> x.mint(0, 0, -13, 13, 5));
        Counted far = burntTwelfth(-40, 0, 1000);
        Check.same("owed of far alone", far.position(0, 0, -40, 0, 1), 0);
        Check.holds("far is owed", far.position(0, 0, -40, 0, 2) > 0);
        Edge.refused("a 13th while far is owed", Edge.STATE, () -> burntTwelfth(-40, 0, 1000),
                x -> x.mint(0, 0, -13, 13, 5));
        Edge.allowed("one without amount is minted again", () -> burntTwelfth(0, 40, 1000),
                x -> x.mint(0, 0, 0, 40, 5), 5);
        Edge.Maker oneLeft = () -> {
            Counted x = positions(11);
            x.mint(0, 0, 0, 40, 2);
            x.burn(0, 0, 0, 40, 1);
            x.collect(0, 0, 0, 40);
            return x;
        };
        Edge.refused("a 13th while an amount of 1 is left", Edge.STATE, oneLeft,
                x -> x.mint(0, 0, -13, 13, 5));
    }

    private static void promise4OneWithoutAmountAndOwedNothingIsNone() {
        Edge.Maker collected = () -> {
            Counted x = burntTwelfth(0, 40, 1000);
            x.collect(0, 0, 0, 40);
            return x;
        };
        Edge.allowed("another one when one is burnt and collected", collected,
                x -> x.mint(0, 0, -13, 13, 5), 5);
        Edge.allowed("the same one again", collected, x -> x.mint(0, 0, 0, 40, 5), 5);
        Edge.allowed("another one when one is burnt and owed nothing", () -> burntTwelfth(0, 5, 1),
                x -> x.mint(0, 0, -13, 13, 5), 5);
        Edge.Maker full = () -> {
            Counted x = collected.make();
            x.mint(3, 1, -13, 13, 5);
            return x;
        };
        Edge.refused("the ended one again, when its place is taken", Edge.STATE, full,
                x -> x.mint(0, 0, 0, 40, 5));
    }

    /** Owner 1 has so much of a pool's near and far token, another owner much. */
    private static Counted having(int pool, int near, int far) {
        Counted x = new Counted(0, 0);
        for (int token = 0; token < 3; token++) {
            x.give(0, token, 20000000);
        }
        x.give(1, pool, near);
        x.give(1, pool + 1, far);
        return x;
    }

    /** "or the owner has too little of a token" */
    private static void promise4TooLittleOfAToken() {
        for (int pool = 0; pool < 2; pool++) {
            int p = pool;
            Edge.Act mint = x -> x.mint(1, p, -10, 10, 1000000);
            Edge.allowed("just enough of both", () -> having(p, 264877, 264877), mint, 1000000);
            Edge.refused("1 too little of near", Edge.STATE, () -> having(p, 264876, 264877), mint);
            Edge.refused("1 too little of far", Edge.STATE, () -> having(p, 264877, 264876), mint);
            Edge.refused("nothing at all", Edge.STATE, () -> having(p, 0, 0), mint);
            Edge.Act above = x -> x.mint(1, p, 0, 5, 1000000);
            Edge.allowed("just enough near, no far asked", () -> having(p, 142607, 0), above, 1000000);
            Edge.refused("1 too little near, much far", Edge.STATE, () -> having(p, 142606, 999999), above);
            Edge.Act below = x -> x.mint(1, p, -5, 0, 1000000);
            Edge.allowed("just enough far, no near asked", () -> having(p, 0, 142607), below, 1000000);
            Edge.refused("1 too little far, much near", Edge.STATE, () -> having(p, 999999, 142606), below);
            Edge.refused("1 of liquidity costs 1", Edge.STATE, () -> having(p, 0, 9),
                    x -> x.mint(1, p, 0, 1, 1));
        }
        Counted x = having(1, 264877, 264877);
        x.mint(1, 1, -10, 10, 1000000);
        Check.same("all near is paid", x.balance(1, 1), 0);
        Check.same("all far is paid", x.balance(1, 2), 0);
    }

    /** "of several exceptions the one that stands first in the throws clause is thrown" */
    private static void promise4OfSeveralExceptionsTheFirst() {
        Edge.Maker poor = () -> having(0, 0, 0);
        Edge.refused("owner before l", Edge.INDEX, poor, x -> x.mint(4, 0, 0, 5, 0));
        Edge.refused("pool before l", Edge.INDEX, poor, x -> x.mint(1, 2, 0, 5, 50000001));
        Edge.refused("lo before the order", Edge.INDEX, poor, x -> x.mint(1, 0, 41, 5, 7));
        Edge.refused("hi before the order", Edge.INDEX, poor, x -> x.mint(1, 0, 5, -41, 7));
        Edge.refused("hi before too little", Edge.INDEX, poor, x -> x.mint(1, 0, 0, 41, 7));
        Edge.refused("owner before 13", Edge.INDEX, () -> positions(12), x -> x.mint(-1, 0, 0, 5, 7));
        Edge.refused("order before too little", Edge.ARGUMENT, poor, x -> x.mint(1, 0, 5, 5, 7));
        Edge.refused("l before too little", Edge.ARGUMENT, poor, x -> x.mint(1, 0, 0, 5, 0));
        Edge.refused("much l before too little", Edge.ARGUMENT, poor, x -> x.mint(1, 0, 0, 5, 50000001));
        Edge.refused("order before 13", Edge.ARGUMENT, () -> positions(12), x -> x.mint(0, 0, 5, 5, 7));
        Edge.refused("l before 13", Edge.ARGUMENT, () -> positions(12), x -> x.mint(0, 0, 0, 5, 0));
        Edge.Maker spent = () -> {
            Counted x = having(0, 1515152, 0);
            x.mint(1, 0, 0, 1, 50000000);
            return x;
        };
        Check.same("all was spent", spent.make().balance(1, 0), 0);
        Edge.refused("amount before too little", Edge.ARGUMENT, spent, x -> x.mint(1, 0, 0, 1, 1));
    }
}
