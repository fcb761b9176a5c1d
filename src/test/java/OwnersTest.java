/** Promises 1 (a new object), 2 (give), 3 (balance). */
public final class OwnersTest {
    public static void main(String[] args) {
        promise1AllIsEmptyAtFirst();
        promise1AFeeLessThan0Is0();
        promise1AFeeMoreThan100Is100();
        promise1ObjectsAreApart();
        promise2GiveAddsUp();
        promise2AmountBelow0();
        promise2MoreThan100000000AtOnce();
        promise2MoreThan100000000TogetherOfAllOwners();
        promise2GivenOutIsEverGivenOut();
        promise2ARefusedGiveIsNotGivenOut();
        promise2OwnerOrTokenOutOfRange();
        promise2OfTwoExceptionsTheFirst();
        promise3BalanceOfEachOwnerAndToken();
        promise3OwnerOrTokenOutOfRange();
        Check.finish("OwnersTest");
    }

    private static Counted fresh() {
        return new Counted(0, 0);
    }

    private static void promise1AllIsEmptyAtFirst() {
        Counted x = new Counted(7, 8);
        for (int pool = 0; pool < 2; pool++) {
            Check.same("price at first", x.price(pool), 4294967296L);
            Check.same("tick at first", x.tick(pool), 0);
            Check.same("liquidity at first", x.liquidity(pool), 0);
            Check.same("near growth at first", x.growth(pool, 0), 0);
            Check.same("far growth at first", x.growth(pool, 1), 0);
        }
        for (int token = 0; token < 3; token++) {
            Check.same("held at first", x.held(token), 0);
            for (int owner = 0; owner < 4; owner++) {
                Check.same("balance at first", x.balance(owner, token), 0);
            }
        }
        Check.same("paid at first", x.paid(), 0);
        Check.same("position at first", x.position(0, 0, 0, 0, 0), 0);
        Check.refuses("no position is there to collect from", Edge.NONE, () -> x.collect(0, 0, 0, 0));
        Check.refuses("no position is there to burn of", Edge.NONE, () -> x.burn(0, 0, -1, 1, 0));
    }

    private static void promise1AFeeLessThan0Is0() {
        feeIs(0, 0);
        feeIs(1, 1);
        feeIs(-1, 0);
        feeIs(Integer.MIN_VALUE, 0);
    }

    private static void promise1AFeeMoreThan100Is100() {
        feeIs(99, 99);
        feeIs(100, 100);
        feeIs(101, 100);
        feeIs(Integer.MAX_VALUE, 100);
    }

    private static void feeIs(int asked, int fee) {
        int other = 37;
        Check.same("pool 0's cost with fee " + asked,
                costOfThousand(new Counted(asked, other), 0), dueCost(fee));
        Check.same("pool 1's cost with fee " + asked,
                costOfThousand(new Counted(other, asked), 1), dueCost(fee));
        Check.same("pool 1's cost beside fee " + asked,
                costOfThousand(new Counted(asked, other), 1), dueCost(other));
    }

    /** 1002 are taken in for 1000, and (1002 * f) / (1000 - f), rounded up, are the fee. */
    private static long dueCost(int fee) {
        return 1002 + (1002 * fee + (1000 - fee) - 1) / (1000 - fee);
    }

    private static long costOfThousand(Counted x, int pool) {
        x.give(0, pool, 10000000);
        x.give(0, pool + 1, 10000000);
        x.mint(0, pool, -40, 40, 1000000);
        x.swap(0, pool, true, -1000, -40);
        return x.paid();
    }

    private static void promise1ObjectsAreApart() {
        Counted one = fresh();
        Counted two = fresh();
        one.give(0, 0, 5);
        one.swap(0, 0, true, 5, -3);
        Check.same("balance of another object", two.balance(0, 0), 0);
        Check.same("price of another object", two.price(0), 4294967296L);
    }

    private static void promise2GiveAddsUp() {
        Counted x = fresh();
        Check.same("give 5", x.give(1, 2, 5), 5);
        Check.same("give 0", x.give(1, 2, 0), 5);
        Check.same("give 7 more", x.give(1, 2, 7), 12);
        Check.same("give another owner", x.give(3, 2, 1), 1);
        Check.same("give another token", x.give(1, 1, 4), 4);
        Check.same("held is not touched by give", x.held(2), 0);
        Check.same("paid is not touched by give", x.paid(), 0);
    }

    /** "IllegalArgumentException when amount is below 0" */
    private static void promise2AmountBelow0() {
        Edge.allowed("give 1", OwnersTest::fresh, x -> x.give(0, 0, 1), 1);
        Edge.allowed("give 0", OwnersTest::fresh, x -> x.give(0, 0, 0), 0);
        Edge.refused("give -1", Edge.ARGUMENT, OwnersTest::fresh, x -> x.give(0, 0, -1));
        Edge.refused("give the least int", Edge.ARGUMENT, OwnersTest::fresh,
                x -> x.give(0, 0, Integer.MIN_VALUE));
        Edge.refused("give -1 to one who has 5", Edge.ARGUMENT, () -> given(0, 5), x -> x.give(0, 0, -1));
    }

    /** Owner 0 has so much of the token. */
    private static Counted given(int token, int amount) {
        Counted x = fresh();
        x.give(0, token, amount);
        return x;
    }

    /** "or more than 100000000 of the token would have been given out" */
    private static void promise2MoreThan100000000AtOnce() {
        for (int token = 0; token < 3; token++) {
            int t = token;
            Edge.allowed("give all of token " + t, OwnersTest::fresh, x -> x.give(0, t, 100000000), 100000000);
            Edge.refused("give 1 more than all of token " + t, Edge.ARGUMENT, OwnersTest::fresh,
                    x -> x.give(0, t, 100000001));
            Edge.refused("give the greatest int of token " + t, Edge.ARGUMENT, OwnersTest::fresh,
                    x -> x.give(0, t, Integer.MAX_VALUE));
            Edge.refused("give the greatest int after all", Edge.ARGUMENT, () -> given(t, 100000000),
                    x -> x.give(0, t, Integer.MAX_VALUE));
        }
    }

    private static void promise2MoreThan100000000TogetherOfAllOwners() {
        Edge.allowed("the last 1", () -> given(1, 99999999), x -> x.give(0, 1, 1), 100000000);
        Edge.allowed("the last 1 to another", () -> given(1, 99999999), x -> x.give(2, 1, 1), 1);
        Edge.refused("2 where 1 is left", Edge.ARGUMENT, () -> given(1, 99999999), x -> x.give(0, 1, 2));
        Edge.refused("2 where 1 is left to another", Edge.ARGUMENT, () -> given(1, 99999999),
                x -> x.give(2, 1, 2));
        Edge.allowed("0 where nothing is left", () -> given(1, 100000000), x -> x.give(2, 1, 0), 0);
        Edge.refused("1 where nothing is left", Edge.ARGUMENT, () -> given(1, 100000000),
                x -> x.give(2, 1, 1));
        Edge.allowed("all of another token", () -> given(1, 100000000),
                x -> x.give(2, 2, 100000000), 100000000);
        Edge.allowed("the last 1 beside four owners", () -> Counted.rich(0, 0, 24999999),
                x -> x.give(3, 2, 4), 25000003);
        Edge.refused("1 too many beside four owners", Edge.ARGUMENT, () -> Counted.rich(0, 0, 24999999),
                x -> x.give(3, 2, 5));
    }

    /** What was given once counts, wherever it is now: "ever given out". */
    private static void promise2GivenOutIsEverGivenOut() {
        Edge.Maker lent = () -> {
            Counted x = given(0, 99999999);
            x.mint(0, 0, 0, 5, 50000000);
            return x;
        };
        Edge.allowed("the last 1, much being held by a pool", lent, x -> x.give(1, 0, 1), 1);
        Edge.refused("2 of which 1 is left, much being held by a pool", Edge.ARGUMENT, lent,
                x -> x.give(1, 0, 2));
    }

    private static void promise2ARefusedGiveIsNotGivenOut() {
        Counted x = fresh();
        Check.refuses("give 1 too many", Edge.ARGUMENT, () -> x.give(0, 1, 100000001));
        Check.refuses("give to owner 4", Edge.INDEX, () -> x.give(4, 1, 5));
        Check.same("all can still be given", x.give(0, 1, 100000000), 100000000);
    }

    /** "An owner, token, pool or tick out of its range is an IndexOutOfBoundsException." */
    private static void promise2OwnerOrTokenOutOfRange() {
        for (int owner = 0; owner < 4; owner++) {
            for (int token = 0; token < 3; token++) {
                int o = owner;
                int t = token;
                Edge.allowed("give " + o + " of " + t, OwnersTest::fresh, x -> x.give(o, t, 9), 9);
            }
        }
        for (int owner : Edge.OUT_OF_OWNERS) {
            Edge.refused("give to owner " + owner, Edge.INDEX, OwnersTest::fresh, x -> x.give(owner, 0, 1));
        }
        for (int token : Edge.OUT_OF_TOKENS) {
            Edge.refused("give of token " + token, Edge.INDEX, OwnersTest::fresh, x -> x.give(0, token, 1));
        }
    }

    /** "of several exceptions the one that stands first in the throws clause is thrown" */
    private static void promise2OfTwoExceptionsTheFirst() {
        Edge.refused("owner before -1", Edge.INDEX, OwnersTest::fresh, x -> x.give(4, 0, -1));
        Edge.refused("token before -1", Edge.INDEX, OwnersTest::fresh, x -> x.give(0, 3, -1));
        Edge.refused("owner before too much", Edge.INDEX, OwnersTest::fresh, x -> x.give(-1, 0, 100000001));
        Edge.refused("token before too much", Edge.INDEX, OwnersTest::fresh, x -> x.give(0, -1, 100000001));
    }

    private static void promise3BalanceOfEachOwnerAndToken() {
        Counted x = fresh();
        for (int owner = 0; owner < 4; owner++) {
            for (int token = 0; token < 3; token++) {
                x.give(owner, token, 100 * owner + token);
            }
        }
        for (int owner = 0; owner < 4; owner++) {
            for (int token = 0; token < 3; token++) {
                Check.same("balance", x.balance(owner, token), 100 * owner + token);
            }
        }
    }

    private static void promise3OwnerOrTokenOutOfRange() {
        Edge.allowed("balance of the last owner", () -> Counted.rich(0, 0, 6), x -> x.balance(3, 0), 6);
        Edge.allowed("balance of the last token", () -> Counted.rich(0, 0, 6), x -> x.balance(0, 2), 6);
        for (int owner : Edge.OUT_OF_OWNERS) {
            Edge.refused("balance of owner " + owner, Edge.INDEX, OwnersTest::fresh,
                    x -> x.balance(owner, 0));
        }
        for (int token : Edge.OUT_OF_TOKENS) {
            Edge.refused("balance of token " + token, Edge.INDEX, OwnersTest::fresh,
                    x -> x.balance(0, token));
        }
    }
}
