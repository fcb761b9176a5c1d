/** Promise 8 (route). */
public final class RouteTest {
    private static final long ROOT_OF_MINUS_40 = 1254299944L;

    public static void main(String[] args) {
        promise8RouteIsTwoSwaps();
        promise8WhatTheSecondPoolDoesNotTakeIsKept();
        promise8OwnerOutOfRange();
        promise8AmountNot1To100000000();
        promise8TooLittleToPay();
        promise8OnlyWhatIsReallyPaidMustBeHad();
        promise8PriceOfPool0IsTheLimit();
        promise8PriceOfPool1IsTheLimit();
        promise8NothingIsGotInPool0();
        promise8LessThanLeast();
        promise8RefusedAfterOthersWereDone();
        promise8OfSeveralExceptionsTheFirst();
        Check.finish("RouteTest");
    }

    /** Owner 0 has lent 1000000 from end to end in both pools, owner 1 has so much of token 0. */
    private static Counted lent(int first, int second, int amount) {
        Counted x = new Counted(first, second);
        for (int token = 0; token < 3; token++) {
            x.give(0, token, 50000000);
        }
        x.give(1, 0, amount);
        x.mint(0, 0, -40, 40, 1000000);
        x.mint(0, 1, -40, 40, 1000000);
        return x;
    }

    private static Counted lent() {
        return lent(100, 0, 10000);
    }

    private static void promise8RouteIsTwoSwaps() {
        Counted x = lent();
        Counted y = lent();
        long got = x.route(1, 1000, 0);
        Check.same("first swap of the route", y.swap(1, 0, true, 1000, -40), 899);
        Check.same("second swap of the route", got, y.swap(1, 1, true, 899, -40));
        Check.same("route", got, 898);
        Check.same("token 0 is paid", x.balance(1, 0), 9000);
        Check.same("token 1 goes through", x.balance(1, 1), 0);
        Check.same("token 2 is got", x.balance(1, 2), 898);
        for (int pool = 0; pool < 2; pool++) {
            Check.same("price after", x.price(pool), y.price(pool));
            Check.same("tick after", x.tick(pool), y.tick(pool));
            Check.same("growth after", x.growth(pool, 0), y.growth(pool, 0));
        }
        for (int token = 0; token < 3; token++) {
            Check.same("held after", x.held(token), y.held(token));
        }
        x.burn(0, 0, -40, 40, 0);
        Check.same("the fee is owed", x.position(0, 0, -40, 40, 1), 99);
    }

    private static void promise8WhatTheSecondPoolDoesNotTakeIsKept() {
        Counted x = new Counted(0, 0);
        x.give(0, 0, 50000000);
        x.give(0, 1, 50000000);
        x.give(0, 2, 50000000);
        x.give(1, 0, 10000);
        x.mint(0, 0, -40, 40, 1000000);
        x.mint(0, 1, -1, 0, 10000);
        Check.same("all that pool 1 had", x.route(1, 1000, 1), 303);
        Check.same("what it did not take of 999 is kept", x.balance(1, 1), 999 - 313);
        Check.same("pool 1 is at its end", x.price(1), ROOT_OF_MINUS_40);
        Check.same("with no tick below", x.tick(1), -41);
        Check.same("paid in the first", x.paid(), 1000);
        Counted half = new Counted(0, 0);
        half.give(0, 0, 50000000);
        half.give(0, 1, 50000000);
        half.mint(0, 0, -40, 40, 1000000);
        Check.same("pool 1 is empty: nothing is got", half.route(0, 1000, 0), 0);
        Check.same("its price moved", half.price(1), ROOT_OF_MINUS_40);
        Check.same("what was got in pool 0 is kept", half.balance(0, 1), 50000000 - 707961 + 999);
    }

    private static void promise8OwnerOutOfRange() {
        Edge.allowed("route by owner 0", RouteTest::lent, x -> x.route(0, 1000, 0), 898);
        Edge.Maker last = () -> {
            Counted x = lent();
            x.give(3, 0, 1000);
            return x;
        };
        Edge.allowed("route by owner 3", last, x -> x.route(3, 1000, 0), 898);
        for (int owner : Edge.OUT_OF_OWNERS) {
            Edge.refused("route by owner " + owner, Edge.INDEX, RouteTest::lent, x -> x.route(owner, 1000, 0));
        }
    }

    /** Pool 0 is at tick 20, where 1 of token 0 buys 3 of token 1. */
    private static Counted dear() {
        Counted x = lent(0, 0, 40000000);
        x.swap(0, 0, false, 40000000, 20);
        return x;
    }

    /** "IllegalArgumentException when amount is not 1 .. 100000000" */
    private static void promise8AmountNot1To100000000() {
        Edge.allowed("route of 1", RouteTest::dear, x -> x.route(1, 1, 0), 2);
        Edge.allowed("route of the most", () -> lent(0, 0, 40000000), x -> x.route(1, 100000000, 0), 414506);
        int[] wrong = {0, -1, -100000000, 100000001, Integer.MIN_VALUE, Integer.MAX_VALUE};
        for (int amount : wrong) {
            Edge.refused("route of " + amount, Edge.ARGUMENT, RouteTest::dear, x -> x.route(1, amount, 0));
        }
    }

    /** "IllegalStateException when the owner has too little to pay" */
    private static void promise8TooLittleToPay() {
        Edge.allowed("with just enough", () -> lent(100, 0, 1000), x -> x.route(1, 1000, 0), 898);
        Edge.refused("with 1 too little", Edge.STATE, () -> lent(100, 0, 999), x -> x.route(1, 1000, 0));
        Edge.refused("with nothing", Edge.STATE, RouteTest::lent, x -> x.route(2, 1000, 0));
        Edge.Maker others = () -> {
            Counted x = lent();
            x.give(2, 1, 50000);
            x.give(2, 2, 50000);
            return x;
        };
        Edge.refused("with the other tokens alone", Edge.STATE, others, x -> x.route(2, 1000, 0));
        Counted x = lent(100, 0, 1000);
        x.route(1, 1000, 0);
        Check.same("all is paid", x.balance(1, 0), 0);
    }

    /** Pool 0 has little, so that it takes in but 313 and pays out 303. */
    private static Counted little(int amount) {
        Counted x = new Counted(0, 0);
        for (int token = 0; token < 3; token++) {
            x.give(0, token, 50000000);
        }
        x.give(1, 0, amount);
        x.mint(0, 0, -1, 0, 10000);
        x.mint(0, 1, -40, 40, 1000000);
        return x;
    }

    private static void promise8OnlyWhatIsReallyPaidMustBeHad() {
        Edge.allowed("with just enough", () -> little(313), x -> x.route(1, 100000000, 0), 302);
        Edge.refused("with 1 too little", Edge.STATE, () -> little(312), x -> x.route(1, 100000000, 0));
        Counted x = little(400);
        x.route(1, 100000000, 0);
        Check.same("paid", x.paid(), 313);
        Check.same("left", x.balance(1, 0), 87);
    }

    /** The price of a pool goes to ROOT(-40), and a swap of so much leads it up again. */
    private static Counted low(int pool, int back) {
        Counted x = lent(0, 0, 10000);
        x.swap(0, pool, true, 40000000, -40);
        if (back != 0) {
            x.swap(0, pool, false, back, 40);
        }
        return x;
    }

    /** "a pool's price is the limit already" */
    private static void promise8PriceOfPool0IsTheLimit() {
        Check.same("at the limit", low(0, 0).price(0), ROOT_OF_MINUS_40);
        Edge.refused("pool 0 at the limit", Edge.STATE, () -> low(0, 0), x -> x.route(1, 1000, 0));
        Edge.refused("pool 0 at the limit, any least", Edge.STATE, () -> low(0, 0),
                x -> x.route(1, 1000, Integer.MIN_VALUE));
        Edge.allowed("pool 0 just above the limit", () -> low(0, 2), x -> x.route(1, 1000, 0), 0);
        Counted x = low(0, 2);
        x.route(1, 1000, 0);
        Check.same("it is at the limit then", x.price(0), ROOT_OF_MINUS_40);
        Check.same("with this paid", x.paid(), 24);
    }

    private static void promise8PriceOfPool1IsTheLimit() {
        Check.same("at the limit", low(1, 0).price(1), ROOT_OF_MINUS_40);
        Edge.refused("pool 1 at the limit", Edge.STATE, () -> low(1, 0), x -> x.route(1, 1000, 0));
        Edge.refused("pool 1 at the limit, any least", Edge.STATE, () -> low(1, 0),
                x -> x.route(1, 1000, Integer.MIN_VALUE));
        Edge.allowed("pool 1 just above the limit", () -> low(1, 1), x -> x.route(1, 1000, 0), 0);
        Counted x = low(1, 1);
        x.route(1, 1000, 0);
        Check.same("it is at the limit then", x.price(1), ROOT_OF_MINUS_40);
        Check.same("what pool 1 did not take of 999", x.balance(1, 1), 987);
    }

    /** "nothing is got in pool 0": at the price 1 a swap of 1 gets nothing, one of 2 gets 1. */
    private static void promise8NothingIsGotInPool0() {
        Edge.allowed("1 is got in pool 0", () -> lent(0, 0, 10000), x -> x.route(1, 2, 0), 0);
        Edge.refused("nothing is got in pool 0", Edge.STATE, () -> lent(0, 0, 10000), x -> x.route(1, 1, 0));
        Edge.refused("nothing is got, and nothing asked", Edge.STATE, () -> lent(0, 0, 10000),
                x -> x.route(1, 1, Integer.MIN_VALUE));
        Edge.refused("pool 0 is empty", Edge.STATE, () -> Counted.rich(0, 0, 1000), x -> x.route(1, 1000, 0));
        Counted x = lent(0, 0, 10000);
        x.route(1, 2, 0);
        Check.same("the 1 went into pool 1", x.balance(1, 1), 0);
    }

    /** "or less than least of token 2 would be got" */
    private static void promise8LessThanLeast() {
        for (int least : new int[] {898, 897, 1, 0, -1, Integer.MIN_VALUE}) {
            Edge.allowed("least " + least, RouteTest::lent, x -> x.route(1, 1000, least), 898);
        }
        for (int least : new int[] {899, 900, 100000001, Integer.MAX_VALUE}) {
            Edge.refused("least " + least, Edge.STATE, RouteTest::lent, x -> x.route(1, 1000, least));
        }
        Edge.allowed("0 is not less than 0", () -> lent(0, 0, 10000), x -> x.route(1, 2, 0), 0);
        Edge.refused("0 is less than 1", Edge.STATE, () -> lent(0, 0, 10000), x -> x.route(1, 2, 1));
        Edge.allowed("1 is not less than 1", () -> lent(0, 0, 10000), x -> x.route(1, 3, 1), 1);
    }

    private static void promise8RefusedAfterOthersWereDone() {
        for (int count = 1; count <= 3; count++) {
            int routes = count;
            Edge.Maker done = () -> {
                Counted x = lent();
                x.mint(0, 0, -5, 5, 1000000);
                x.mint(0, 1, -5, 5, 1000000);
                for (int i = 0; i < routes; i++) {
                    x.route(1, 2000, 0);
                }
                x.give(2, 0, 2000);
                return x;
            };
            Edge.refused("1 too little", Edge.STATE, done, x -> x.route(2, 2001, 0));
            Edge.refused("less than least", Edge.STATE, done, x -> x.route(2, 2000, 2000));
            Edge.refused("through many ticks", Edge.STATE, done, x -> x.route(0, 900000, 900000));
            Edge.refused("nothing got in pool 0", Edge.STATE, done, x -> x.route(2, 1, 0));
        }
    }

    /** "of several exceptions the one that stands first in the throws clause is thrown" */
    private static void promise8OfSeveralExceptionsTheFirst() {
        Edge.refused("owner before amount", Edge.INDEX, RouteTest::lent, x -> x.route(4, 0, 0));
        Edge.refused("owner before the limit", Edge.INDEX, () -> low(0, 0), x -> x.route(-1, 1000, 0));
        Edge.refused("amount before too little", Edge.ARGUMENT, RouteTest::lent, x -> x.route(2, 0, 0));
        Edge.refused("amount before the limit", Edge.ARGUMENT, () -> low(0, 0), x -> x.route(1, 100000001, 0));
        Edge.refused("amount before least", Edge.ARGUMENT, RouteTest::lent,
                x -> x.route(1, 0, Integer.MAX_VALUE));
    }
}
