/** Promise 7 (swap): its answers, what the owner pays and gets, and what it refuses. */
public final class SwapTest {
    public static void main(String[] args) {
        promise7OneStepOfEachKind();
        promise7FeesGoToThoseInRange();
        promise7TheMostLiquidity();
        promise7OwnerOutOfRange();
        promise7PoolOutOfRange();
        promise7LimitOutOfRange();
        promise7AmountIs0();
        promise7AmountNotWithin100000000();
        promise7LimitNotBelowThePriceDown();
        promise7LimitNotAboveThePriceUp();
        promise7LimitAtTheEnds();
        promise7TooLittleToPayExactIn();
        promise7TooLittleToPayForWhatIsPaidOut();
        promise7TooLittleToPayThroughManyTicks();
        promise7OnlyWhatIsReallyPaidMustBeHad();
        promise7TooLittleToPayAfterOthersWereDone();
        promise7OfSeveralExceptionsTheFirst();
        Check.finish("SwapTest");
    }

    /** Owner 0 has lent 1000000 from end to end in both pools, owner 1 has 40000000 of each token. */
    private static Counted lent(int fee) {
        Counted x = new Counted(fee, fee);
        for (int token = 0; token < 3; token++) {
            x.give(0, token, 50000000);
            x.give(1, token, 40000000);
        }
        x.mint(0, 0, -40, 40, 1000000);
        x.mint(0, 1, -40, 40, 1000000);
        return x;
    }

    private static Counted lent() {
        return lent(0);
    }

    private static void oneStep(int fee, boolean down, int amount, long[] due) {
        for (int pool = 0; pool < 2; pool++) {
            Counted x = lent(fee);
            int in = down ? pool : pool + 1;
            int out = down ? pool + 1 : pool;
            long heldIn = x.held(in);
            long heldOut = x.held(out);
            String what = "swap(1, " + pool + ", " + down + ", " + amount + ") with fee " + fee;
            Check.same(what, x.swap(1, pool, down, amount, down ? -40 : 40), due[0]);
            Check.same("paid in " + what, x.paid(), due[1]);
            Check.same("price after " + what, x.price(pool), due[2]);
            Check.same("growth after " + what, x.growth(pool, down ? 0 : 1), due[3]);
            Check.same("other growth after " + what, x.growth(pool, down ? 1 : 0), 0);
            Check.same("tick after " + what, x.tick(pool), down ? -1 : 0);
            Check.same("balance in after " + what, x.balance(1, in), 40000000 - due[1]);
            Check.same("balance out after " + what, x.balance(1, out), 40000000 + due[0]);
            Check.same("held in after " + what, x.held(in) - heldIn, due[1]);
            Check.same("held out after " + what, heldOut - x.held(out), due[0]);
            Check.same("other price after " + what, x.price(1 - pool), 4294967296L);
        }
    }

    private static void promise7OneStepOfEachKind() {
        oneStep(0, true, 1000, new long[] {999, 1000, 4290676620L, 0});
        oneStep(0, false, 1000, new long[] {999, 1000, 4299262263L, 0});
        oneStep(0, true, -1000, new long[] {1000, 1002, 4290672328L, 0});
        oneStep(0, false, -1000, new long[] {1000, 1002, 4299266563L, 0});
        oneStep(100, true, 1000, new long[] {899, 1000, 4291105302L, 429496});
        oneStep(100, false, 1000, new long[] {899, 1000, 4298832766L, 429496});
        oneStep(100, true, -1000, new long[] {1000, 1114, 4290672328L, 481036});
        oneStep(100, false, -1000, new long[] {1000, 1114, 4299266563L, 481036});
    }

    private static void promise7FeesGoToThoseInRange() {
        Counted x = lent(100);
        x.mint(0, 0, 1, 9, 3000000);
        x.mint(1, 0, -9, -1, 3000000);
        x.swap(1, 0, true, -1000, -40);
        x.burn(0, 0, 1, 9, 0);
        x.burn(1, 0, -9, -1, 0);
        x.burn(0, 0, -40, 40, 0);
        Check.same("owed to the one above", x.position(0, 0, 1, 9, 1), 0);
        Check.same("owed to the one below", x.position(1, 0, -9, -1, 1), 0);
        Check.same("owed to the one in range", x.position(0, 0, -40, 40, 1), 111);
        x.swap(1, 0, true, 40000000, -2);
        Check.same("paid down to -2", x.paid(), 176840);
        x.swap(1, 0, false, 20000000, 2);
        Check.same("paid up to 2", x.paid(), 342224);
        x.burn(0, 0, 1, 9, 0);
        x.burn(1, 0, -9, -1, 0);
        Check.same("near owed to the one below", x.position(1, 0, -9, -1, 1), 10742);
        Check.same("far owed to the one below", x.position(1, 0, -9, -1, 2), 9794);
        Check.same("near owed to the one above", x.position(0, 0, 1, 9, 1), 0);
        Check.same("far owed to the one above", x.position(0, 0, 1, 9, 2), 10742);
        x.mint(1, 0, -12, -9, 1000);
        x.burn(1, 0, -12, -9, 0);
        Check.same("a later one is owed nothing", x.position(1, 0, -12, -9, 1), 0);
    }

    private static void promise7TheMostLiquidity() {
        Counted x = new Counted(0, 0);
        x.give(0, 0, 50000000);
        x.give(0, 1, 50000000);
        x.give(1, 0, 50000000);
        x.give(1, 1, 50000000);
        for (int owner = 0; owner < 2; owner++) {
            for (int hi = 1; hi <= 2; hi++) {
                for (int lo = -3; lo <= -1; lo++) {
                    x.mint(owner, 0, lo, hi, 50000000);
                }
            }
        }
        Check.same("twelve times the most", x.liquidity(0), 600000000);
        Check.same("a swap through it", x.swap(1, 0, true, 1000000, -40), 998336);
        Check.same("its price", x.price(0), 4287820928L);
    }

    private static void promise7OwnerOutOfRange() {
        Edge.allowed("swap by owner 0", SwapTest::lent, x -> x.swap(0, 0, true, 1000, -40), 999);
        Edge.allowed("swap by owner 3", () -> having(3, 0, 1000), x -> x.swap(3, 0, true, 1000, -40), 999);
        for (int owner : Edge.OUT_OF_OWNERS) {
            Edge.refused("swap by owner " + owner, Edge.INDEX, SwapTest::lent,
                    x -> x.swap(owner, 0, true, 1000, -40));
        }
    }

    private static void promise7PoolOutOfRange() {
        Edge.allowed("swap in pool 0", SwapTest::lent, x -> x.swap(1, 0, true, 1000, -40), 999);
        Edge.allowed("swap in pool 1", SwapTest::lent, x -> x.swap(1, 1, true, 1000, -40), 999);
        for (int pool : Edge.OUT_OF_POOLS) {
            Edge.refused("swap in pool " + pool, Edge.INDEX, SwapTest::lent,
                    x -> x.swap(1, pool, true, 1000, -40));
        }
    }

    private static void promise7LimitOutOfRange() {
        Edge.allowed("swap down to -40", SwapTest::lent, x -> x.swap(1, 0, true, 1000, -40), 999);
        Edge.allowed("swap up to 40", SwapTest::lent, x -> x.swap(1, 0, false, 1000, 40), 999);
        for (int limit : Edge.OUT_OF_TICKS) {
            Edge.refused("swap down to " + limit, Edge.INDEX, SwapTest::lent,
                    x -> x.swap(1, 0, true, 1000, limit));
            Edge.refused("swap up to " + limit, Edge.INDEX, SwapTest::lent,
                    x -> x.swap(1, 0, false, 1000, limit));
        }
    }

    /** "IllegalArgumentException when amount is 0" */
    private static void promise7AmountIs0() {
        for (int pool = 0; pool < 2; pool++) {
            int p = pool;
            Edge.allowed("swap down of 1", SwapTest::lent, x -> x.swap(1, p, true, 1, -40), 0);
            Edge.allowed("swap up of 1", SwapTest::lent, x -> x.swap(1, p, false, 1, 40), 0);
            Edge.allowed("swap down of -1", SwapTest::lent, x -> x.swap(1, p, true, -1, -40), 1);
            Edge.allowed("swap up of -1", SwapTest::lent, x -> x.swap(1, p, false, -1, 40), 1);
            Edge.refused("swap down of 0", Edge.ARGUMENT, SwapTest::lent, x -> x.swap(1, p, true, 0, -40));
            Edge.refused("swap up of 0", Edge.ARGUMENT, SwapTest::lent, x -> x.swap(1, p, false, 0, 40));
        }
    }

    /** "or not -100000000 .. 100000000" */
    private static void promise7AmountNotWithin100000000() {
        for (int amount : new int[] {100000000, -100000000}) {
            Edge.allowed("swap down of " + amount, SwapTest::lent, x -> x.swap(1, 0, true, amount, -40), 707960);
            Edge.allowed("swap up of " + amount, SwapTest::lent, x -> x.swap(1, 0, false, amount, 40), 707960);
        }
        int[] wrong = {100000001, -100000001, Integer.MAX_VALUE, Integer.MIN_VALUE, -Integer.MAX_VALUE};
        for (int amount : wrong) {
            Edge.refused("swap down of " + amount, Edge.ARGUMENT, SwapTest::lent,
                    x -> x.swap(1, 0, true, amount, -40));
            Edge.refused("swap up of " + amount, Edge.ARGUMENT, SwapTest::lent,
                    x -> x.swap(1, 0, false, amount, 40));
        }
    }

    /** The price is 4294971590, a little above ROOT(0). */
    private static Counted above() {
        Counted x = lent();
        x.swap(1, 0, false, 1, 40);
        return x;
    }

    /** The price is 4294963002, a little below ROOT(0). */
    private static Counted below() {
        Counted x = lent();
        x.swap(1, 0, true, 1, -40);
        return x;
    }

    /** "or the limit is not below the price (down)" */
    private static void promise7LimitNotBelowThePriceDown() {
        Edge.allowed("from ROOT(0) to -1", SwapTest::lent, x -> x.swap(1, 0, true, 1000, -1), 999);
        Edge.refused("from ROOT(0) to 0", Edge.ARGUMENT, SwapTest::lent, x -> x.swap(1, 0, true, 1000, 0));
        Edge.refused("from ROOT(0) to 1", Edge.ARGUMENT, SwapTest::lent, x -> x.swap(1, 0, true, 1000, 1));
        Edge.refused("from ROOT(0) to 0, paid out", Edge.ARGUMENT, SwapTest::lent,
                x -> x.swap(1, 0, true, -1000, 0));
        Edge.allowed("from above ROOT(0) to 0", SwapTest::above, x -> x.swap(1, 0, true, 1000, 0), 0);
        Edge.refused("from above ROOT(0) to 1", Edge.ARGUMENT, SwapTest::above,
                x -> x.swap(1, 0, true, 1000, 1));
        Edge.allowed("from below ROOT(0) to -1", SwapTest::below, x -> x.swap(1, 0, true, 1000, -1), 998);
        Edge.refused("from below ROOT(0) to 0", Edge.ARGUMENT, SwapTest::below,
                x -> x.swap(1, 0, true, 1000, 0));
        Edge.refused("down to 40", Edge.ARGUMENT, SwapTest::lent, x -> x.swap(1, 0, true, 1000, 40));
    }

    /** "or above it (up)" */
    private static void promise7LimitNotAboveThePriceUp() {
        Edge.allowed("from ROOT(0) to 1", SwapTest::lent, x -> x.swap(1, 0, false, 1000, 1), 999);
        Edge.refused("from ROOT(0) to 0", Edge.ARGUMENT, SwapTest::lent, x -> x.swap(1, 0, false, 1000, 0));
        Edge.refused("from ROOT(0) to -1", Edge.ARGUMENT, SwapTest::lent,
                x -> x.swap(1, 0, false, 1000, -1));
        Edge.refused("from ROOT(0) to 0, paid out", Edge.ARGUMENT, SwapTest::lent,
                x -> x.swap(1, 0, false, -1000, 0));
        Edge.allowed("from below ROOT(0) to 0", SwapTest::below, x -> x.swap(1, 0, false, 1000, 0), 0);
        Edge.refused("from below ROOT(0) to -1", Edge.ARGUMENT, SwapTest::below,
                x -> x.swap(1, 0, false, 1000, -1));
        Edge.allowed("from above ROOT(0) to 1", SwapTest::above, x -> x.swap(1, 0, false, 1000, 1), 998);
        Edge.refused("from above ROOT(0) to 0", Edge.ARGUMENT, SwapTest::above,
                x -> x.swap(1, 0, false, 1000, 0));
        Edge.refused("up to -40", Edge.ARGUMENT, SwapTest::lent, x -> x.swap(1, 0, false, 1000, -40));
    }

    private static Counted moved(boolean down, int amount, int back) {
        Counted x = lent();
        x.swap(1, 0, down, amount, down ? -40 : 40);
        if (back != 0) {
            x.swap(1, 0, !down, back, down ? 40 : -40);
        }
        return x;
    }

    private static void promise7LimitAtTheEnds() {
        Edge.Maker bottom = () -> moved(true, 100000000, 0);
        Check.same("the lowest price", bottom.make().price(0), 1254299944L);
        Edge.allowed("up from ROOT(-40) to -39", bottom, x -> x.swap(1, 0, false, 1000, -39), 11685);
        Edge.refused("up from ROOT(-40) to it", Edge.ARGUMENT, bottom, x -> x.swap(1, 0, false, 1000, -40));
        Edge.refused("down from ROOT(-40) to it", Edge.ARGUMENT, bottom, x -> x.swap(1, 0, true, 1000, -40));
        Edge.Maker nearBottom = () -> moved(true, 100000000, 1);
        Edge.allowed("down from above ROOT(-40)", nearBottom, x -> x.swap(1, 0, true, 1000, -40), 0);
        Edge.Maker top = () -> moved(false, 100000000, 0);
        Check.same("the highest price", top.make().price(0), 14706804614L);
        Edge.allowed("down from ROOT(40) to 39", top, x -> x.swap(1, 0, true, 1000, 39), 11685);
        Edge.refused("down from ROOT(40) to it", Edge.ARGUMENT, top, x -> x.swap(1, 0, true, 1000, 40));
        Edge.refused("up from ROOT(40) to it", Edge.ARGUMENT, top, x -> x.swap(1, 0, false, 1000, 40));
        Edge.Maker nearTop = () -> moved(false, 100000000, 1);
        Edge.allowed("up from below ROOT(40)", nearTop, x -> x.swap(1, 0, false, 1000, 40), 0);
    }

    /** With fee 100 and a position from -5 to 5 besides, an owner has just so much of a token. */
    private static Counted having(int owner, int token, int amount, int fee) {
        Counted x = lent(fee);
        for (int pool = 0; pool < 2; pool++) {
            x.mint(0, pool, -5, 5, 1000000);
        }
        x.give(owner, token, amount);
        return x;
    }

    private static Counted having(int owner, int token, int amount) {
        Counted x = lent();
        x.give(owner, token, amount);
        return x;
    }

    /** "IllegalStateException when the owner has too little to pay" */
    private static void promise7TooLittleToPayExactIn() {
        for (int pool = 0; pool < 2; pool++) {
            int p = pool;
            Edge.Act down = x -> x.swap(2, p, true, 1000, -40);
            Edge.allowed("down with just enough", () -> having(2, p, 1000, 100), down, 899);
            Edge.refused("down with 1 too little", Edge.STATE, () -> having(2, p, 999, 100), down);
            Edge.refused("down with the other token", Edge.STATE, () -> having(2, p + 1, 1000, 100), down);
            Edge.Act up = x -> x.swap(2, p, false, 1000, 40);
            Edge.allowed("up with just enough", () -> having(2, p + 1, 1000, 100), up, 899);
            Edge.refused("up with 1 too little", Edge.STATE, () -> having(2, p + 1, 999, 100), up);
            Edge.refused("up with the other token", Edge.STATE, () -> having(2, p, 1000, 100), up);
        }
        Edge.allowed("1 for nothing", () -> having(2, 0, 1, 1), x -> x.swap(2, 0, true, 1, -40), 0);
        Edge.refused("1 for nothing, not had", Edge.STATE, () -> having(2, 0, 0, 1),
                x -> x.swap(2, 0, true, 1, -40));
        Counted x = having(2, 0, 1000, 100);
        x.swap(2, 0, true, 1000, -40);
        Check.same("all is paid", x.balance(2, 0), 0);
    }

    private static void promise7TooLittleToPayForWhatIsPaidOut() {
        for (int pool = 0; pool < 2; pool++) {
            int p = pool;
            Edge.Act down = x -> x.swap(2, p, true, -500000, -40);
            Edge.allowed("down with just enough", () -> having(2, p, 802770, 100), down, 500000);
            Edge.refused("down with 1 too little", Edge.STATE, () -> having(2, p, 802769, 100), down);
            Edge.Act up = x -> x.swap(2, p, false, -500000, 40);
            Edge.allowed("up with just enough", () -> having(2, p + 1, 802770, 100), up, 500000);
            Edge.refused("up with 1 too little", Edge.STATE, () -> having(2, p + 1, 802769, 100), up);
        }
        Edge.allowed("2 for 1", () -> having(2, 0, 2), x -> x.swap(2, 0, true, -1, -40), 1);
        Edge.refused("2 for 1, 1 had", Edge.STATE, () -> having(2, 0, 1), x -> x.swap(2, 0, true, -1, -40));
    }

    private static void promise7TooLittleToPayThroughManyTicks() {
        Edge.Act down = x -> x.swap(2, 0, true, 1000000, -40);
        Edge.allowed("down with just enough", () -> having(2, 0, 1000000, 100), down, 565795);
        Edge.refused("down with 1 too little", Edge.STATE, () -> having(2, 0, 999999, 100), down);
        Edge.refused("down with nothing", Edge.STATE, () -> having(2, 0, 0, 100), down);
        Edge.Act up = x -> x.swap(2, 0, false, 1000000, 40);
        Edge.allowed("up with just enough", () -> having(2, 1, 1000000, 100), up, 565795);
        Edge.refused("up with 1 too little", Edge.STATE, () -> having(2, 1, 999999, 100), up);
        Edge.refused("up with nothing", Edge.STATE, () -> having(2, 1, 0, 100), up);
    }

    /** At the limit a swap ends with REST left: what is left of the amount is not paid. */
    private static void promise7OnlyWhatIsReallyPaidMustBeHad() {
        Edge.Act down = x -> x.swap(2, 0, true, 100000000, -1);
        Edge.allowed("down to -1 with just enough", () -> having(2, 0, 31250), down, 30303);
        Edge.refused("down to -1 with 1 too little", Edge.STATE, () -> having(2, 0, 31249), down);
        Edge.Act up = x -> x.swap(2, 0, false, 100000000, 1);
        Edge.allowed("up to 1 with just enough", () -> having(2, 1, 31250), up, 30303);
        Edge.refused("up to 1 with 1 too little", Edge.STATE, () -> having(2, 1, 31249), up);
        Edge.allowed("nothing is had and nothing taken", () -> new Counted(100, 100),
                x -> x.swap(3, 1, true, 100000000, -40), 0);
        Edge.allowed("nothing is had and nothing paid out", () -> new Counted(100, 100),
                x -> x.swap(3, 1, false, -100000000, 40), 0);
    }

    /** What a swap was tried on must not be mixed up with what it leaves when it is done. */
    private static void promise7TooLittleToPayAfterOthersWereDone() {
        for (int count = 1; count <= 3; count++) {
            int swaps = count;
            Edge.Maker done = () -> {
                Counted x = having(2, 0, 999, 100);
                for (int i = 0; i < swaps; i++) {
                    x.swap(1, 0, i % 2 == 0, 300000, i % 2 == 0 ? -40 : 40);
                }
                return x;
            };
            Edge.refused("down with 1 too little", Edge.STATE, done, x -> x.swap(2, 0, true, 1000, -40));
            Edge.refused("far down", Edge.STATE, done, x -> x.swap(2, 0, true, 1000000, -40));
            Edge.refused("far up", Edge.STATE, done, x -> x.swap(2, 0, false, 1000000, 40));
            Edge.refused("twice", Edge.STATE, done, x -> {
                Check.refuses("the first of two", Edge.STATE, () -> x.swap(2, 0, false, 1000000, 40));
                return x.swap(2, 0, true, 1000000, -40);
            });
        }
    }

    /** "of several exceptions the one that stands first in the throws clause is thrown" */
    private static void promise7OfSeveralExceptionsTheFirst() {
        Edge.Maker lent = SwapTest::lent;
        Edge.refused("owner before amount", Edge.INDEX, lent, x -> x.swap(4, 0, true, 0, -40));
        Edge.refused("pool before amount", Edge.INDEX, lent, x -> x.swap(1, 2, true, 0, -40));
        Edge.refused("limit's range before amount", Edge.INDEX, lent, x -> x.swap(1, 0, true, 0, -41));
        Edge.refused("limit's range before its side", Edge.INDEX, lent, x -> x.swap(1, 0, true, 5, 41));
        Edge.refused("owner before the limit's side", Edge.INDEX, lent, x -> x.swap(-1, 0, true, 5, 0));
        Edge.refused("limit's range before too little", Edge.INDEX, lent, x -> x.swap(2, 0, true, 5, -41));
        Edge.refused("amount before too little", Edge.ARGUMENT, lent, x -> x.swap(2, 0, true, 0, -40));
        Edge.refused("much before too little", Edge.ARGUMENT, lent, x -> x.swap(2, 0, true, 100000001, -40));
        Edge.refused("limit's side before too little", Edge.ARGUMENT, lent, x -> x.swap(2, 0, true, 5, 0));
    }
}
