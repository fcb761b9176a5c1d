/** Promises 1 (a new object), 2 (give), 3 (balance). */
public final class OwnersTest {
    private static final Class<IndexOutOfBoundsException> INDEX = IndexOutOfBoundsException.class;
    private static final Class<IllegalArgumentException> ARGUMENT = IllegalArgumentException.class;
    private static final int[] OUT_OF_OWNERS = {-1, 4, Integer.MIN_VALUE, Integer.MAX_VALUE};
    private static final int[] OUT_OF_TOKENS = {-1, 3, Integer.MIN_VALUE, Integer.MAX_VALUE};

    public static void main(String[] args) {
        promise1AllIsEmptyAtFirst();
        promise1FeesAreCutToTheirRange();
        promise1ObjectsAreApart();
        promise2GiveAddsUp();
        promise2GiveRefuses();
        promise3BalanceOfEachOwnerAndToken();
        promise3BalanceRefuses();
        Check.finish("OwnersTest");
    }

    private static void promise1AllIsEmptyAtFirst() {
        RangeExchange x = new RangeExchange(7, 8);
        for (int pool = 0; pool < 2; pool++) {
            Check.same("price at first", x.price(pool), 4294967296L);
            Check.same("tick at first", x.tick(pool), 0);
            Check.same("liquidity at first", x.liquidity(pool), 0);
            Check.same("near growth at first", x.growth(pool, 0), 0);
            Check.same("far growth at first", x.growth(pool, 1), 0);
        }
        for (int token = 0; token < 3; token++) {
            Check.same("held at first", x.held(token), 0);
            for (int owner = 0; owner < 4; owner++) {
                Check.same("balance at first", x.balance(owner, token), 0);
            }
        }
        Check.same("paid at first", x.paid(), 0);
        Check.same("position at first", x.position(0, 0, 0, 0, 0), 0);
    }

    private static void promise1FeesAreCutToTheirRange() {
        int[] asked = {Integer.MIN_VALUE, -1, 0, 1, 99, 100, 101, Integer.MAX_VALUE};
        int[] fees = {0, 0, 0, 1, 99, 100, 100, 100};
        for (int i = 0; i < asked.length; i++) {
            int other = 37;
            Check.same("pool 0's cost with fee " + asked[i],
                    costOfThousand(new RangeExchange(asked[i], other), 0), dueCost(fees[i]));
            Check.same("pool 1's cost with fee " + asked[i],
                    costOfThousand(new RangeExchange(other, asked[i]), 1), dueCost(fees[i]));
        }
    }

    /** 1002 are taken in for 1000, and (1002 * f) / (1000 - f), rounded up, are the fee. */
    private static long dueCost(int fee) {
        return 1002 + (1002 * fee + (1000 - fee) - 1) / (1000 - fee);
    }

    private static long costOfThousand(RangeExchange x, int pool) {
        x.give(0, pool, 10000000);
        x.give(0, pool + 1, 10000000);
        x.mint(0, pool, -40, 40, 1000000);
        x.swap(0, pool, true, -1000, -40);
        return x.paid();
    }

    private static void promise1ObjectsAreApart() {
        RangeExchange one = new RangeExchange(0, 0);
        RangeExchange two = new RangeExchange(0, 0);
        one.give(0, 0, 5);
        one.swap(0, 0, true, 5, -3);
        Check.same("balance of another object", two.balance(0, 0), 0);
        Check.same("price of another object", two.price(0), 4294967296L);
    }

    private static void promise2GiveAddsUp() {
        RangeExchange x = new RangeExchange(0, 0);
        Check.same("give 5", x.give(1, 2, 5), 5);
        Check.same("give 0", x.give(1, 2, 0), 5);
        Check.same("give 7 more", x.give(1, 2, 7), 12);
        Check.same("give another owner", x.give(3, 2, 1), 1);
        Check.same("give all the rest", x.give(0, 2, 99999987), 99999987);
        Check.same("give 0 of what is all given", x.give(2, 2, 0), 0);
        Check.same("give all of a token at once", x.give(0, 1, 100000000), 100000000);
        Check.same("held is not touched by give", x.held(2), 0);
    }

    private static void promise2GiveRefuses() {
        RangeExchange x = new RangeExchange(0, 0);
        x.give(0, 0, 60000000);
        x.give(1, 0, 40000000);
        Seen.refused(x, "give over the 100000000 of all owners", ARGUMENT, () -> x.give(2, 0, 1));
        Seen.refused(x, "give over the 100000000", ARGUMENT, () -> x.give(0, 1, 100000001));
        Seen.refused(x, "give the greatest int", ARGUMENT, () -> x.give(0, 1, Integer.MAX_VALUE));
        Seen.refused(x, "give below 0", ARGUMENT, () -> x.give(0, 1, -1));
        Seen.refused(x, "give the least int", ARGUMENT, () -> x.give(0, 1, Integer.MIN_VALUE));
        for (int owner : OUT_OF_OWNERS) {
            Seen.refused(x, "give to owner " + owner, INDEX, () -> x.give(owner, 0, 1));
        }
        for (int token : OUT_OF_TOKENS) {
            Seen.refused(x, "give of token " + token, INDEX, () -> x.give(0, token, 1));
        }
        Seen.refused(x, "give with a wrong owner and amount", INDEX, () -> x.give(4, 1, -1));
        Seen.refused(x, "give with a wrong token and amount", INDEX, () -> x.give(0, 3, -1));
        x.mint(0, 0, 0, 5, 1000000);
        Seen.refused(x, "give of what the pools hold now", ARGUMENT, () -> x.give(0, 0, 1));
        Check.same("refused gives are not counted as given", x.give(0, 1, 100000000), 100000000);
    }

    private static void promise3BalanceOfEachOwnerAndToken() {
        RangeExchange x = new RangeExchange(0, 0);
        for (int owner = 0; owner < 4; owner++) {
            for (int token = 0; token < 3; token++) {
                x.give(owner, token, 100 * owner + token);
            }
        }
        for (int owner = 0; owner < 4; owner++) {
            for (int token = 0; token < 3; token++) {
                Check.same("balance", x.balance(owner, token), 100 * owner + token);
            }
        }
    }

    private static void promise3BalanceRefuses() {
        RangeExchange x = new RangeExchange(0, 0);
        for (int owner : OUT_OF_OWNERS) {
            Check.refuses("balance of owner " + owner, INDEX, () -> x.balance(owner, 0));
        }
        for (int token : OUT_OF_TOKENS) {
            Check.refuses("balance of token " + token, INDEX, () -> x.balance(0, token));
        }
    }
}
