/** Promises 8 (route), 9 (paid, of a route), 15 (held). */
public final class RouteTest {
    private static final Class<IndexOutOfBoundsException> INDEX = IndexOutOfBoundsException.class;
    private static final Class<IllegalArgumentException> ARGUMENT = IllegalArgumentException.class;
    private static final Class<IllegalStateException> STATE = IllegalStateException.class;

    public static void main(String[] args) {
        promise8RouteIsTwoSwaps();
        promise8WhatTheSecondPoolDoesNotTakeIsKept();
        promise8PaysLessThanTheAmount();
        promise8RefusesIndicesAndArguments();
        promise8RefusesByState();
        promise8RefusesPricesAtTheLimit();
        promise9PaidIsOfTheFirstSwap();
        promise15Held();
        Check.finish("RouteTest");
    }

    private static RangeExchange lent(int first, int second) {
        RangeExchange x = new RangeExchange(first, second);
        for (int token = 0; token < 3; token++) {
            x.give(0, token, 50000000);
        }
        x.give(1, 0, 10000);
        x.mint(0, 0, -40, 40, 1000000);
        x.mint(0, 1, -40, 40, 1000000);
        return x;
    }

    private static void promise8RouteIsTwoSwaps() {
        RangeExchange x = lent(100, 0);
        RangeExchange y = lent(100, 0);
        long got = x.route(1, 1000, 0);
        Check.same("first swap of the route", y.swap(1, 0, true, 1000, -40), 899);
        Check.same("second swap of the route", got, y.swap(1, 1, true, 899, -40));
        Check.same("route", got, 898);
        Check.same("token 0 is paid", x.balance(1, 0), 9000);
        Check.same("token 1 goes through", x.balance(1, 1), 0);
        Check.same("token 2 is got", x.balance(1, 2), 898);
        for (int pool = 0; pool < 2; pool++) {
            Check.same("price after", x.price(pool), y.price(pool));
            Check.same("tick after", x.tick(pool), y.tick(pool));
            Check.same("growth after", x.growth(pool, 0), y.growth(pool, 0));
        }
        for (int token = 0; token < 3; token++) {
            Check.same("held after", x.held(token), y.held(token));
        }
        Check.same("a route that gets just least", lent(100, 0).route(1, 1000, 898), 898);
        Check.same("any least below 0 will do", lent(100, 0).route(1, 1000, Integer.MIN_VALUE), 898);
        x.burn(0, 0, -40, 40, 0);
        Check.same("the fee is owed", x.position(0, 0, -40, 40, 1), 99);
    }

    private static void promise8WhatTheSecondPoolDoesNotTakeIsKept() {
        RangeExchange x = new RangeExchange(0, 0);
        x.give(0, 0, 50000000);
        x.give(0, 1, 50000000);
        x.give(0, 2, 50000000);
        x.give(1, 0, 10000);
        x.mint(0, 0, -40, 40, 1000000);
        x.mint(0, 1, -1, 0, 10000);
        long got = x.route(1, 1000, 1);
        Check.same("all that pool 1 had", got, 303);
        Check.same("what it did not take of 999 is kept", x.balance(1, 1), 999 - 313);
        Check.same("pool 1 is at its end", x.price(1), 1254299944L);
        Check.same("with no tick below", x.tick(1), -41);
        Check.same("paid in the first", x.paid(), 1000);
    }

    private static void promise8PaysLessThanTheAmount() {
        RangeExchange x = new RangeExchange(0, 0);
        x.give(0, 0, 50000000);
        x.give(0, 1, 50000000);
        x.give(0, 2, 50000000);
        x.give(1, 0, 400);
        x.mint(0, 0, -1, 0, 10000);
        x.mint(0, 1, -40, 40, 1000000);
        Check.same("only what pool 0 takes is to be paid", x.route(1, 100000000, 0), 302);
        Check.same("paid", x.paid(), 313);
        Check.same("left", x.balance(1, 0), 87);
    }

    private static void promise8RefusesIndicesAndArguments() {
        RangeExchange x = lent(0, 0);
        for (int owner : new int[] {-1, 4, Integer.MIN_VALUE, Integer.MAX_VALUE}) {
            Seen.refused(x, "route by owner " + owner, INDEX, () -> x.route(owner, 10, 0));
        }
        Seen.refused(x, "route by a wrong owner of nothing", INDEX, () -> x.route(4, 0, 0));
        for (int amount : new int[] {0, -1, 100000001, Integer.MIN_VALUE, Integer.MAX_VALUE}) {
            Seen.refused(x, "route of " + amount, ARGUMENT, () -> x.route(1, amount, 0));
        }
        Seen.refused(x, "a wrong amount before too little", ARGUMENT, () -> x.route(2, 0, 0));
    }

    private static void promise8RefusesByState() {
        RangeExchange x = lent(100, 0);
        Seen.refused(x, "route of one who has nothing", STATE, () -> x.route(2, 10, 0));
        Seen.refused(x, "route of one who has 1 too little", STATE, () -> x.route(1, 10001, 0));
        Seen.refused(x, "route that gets 1 less than least", STATE, () -> x.route(1, 1000, 899));
        Seen.refused(x, "route with the greatest least", STATE, () -> x.route(1, 1000, Integer.MAX_VALUE));
        Seen.refused(x, "route that gets nothing in pool 0", STATE, () -> x.route(1, 1, 0));
        x.burn(0, 0, -40, 40, 0);
        Check.same("no fee of a refused route is owed", x.position(0, 0, -40, 40, 1), 0);
        RangeExchange empty = new RangeExchange(0, 0);
        empty.give(1, 0, 10000);
        Seen.refused(empty, "route without liquidity", STATE, () -> empty.route(1, 1000, 0));
        RangeExchange half = new RangeExchange(0, 0);
        half.give(0, 0, 50000000);
        half.give(0, 1, 50000000);
        half.mint(0, 0, -40, 40, 1000000);
        Seen.refused(half, "route with a least, pool 1 empty", STATE, () -> half.route(0, 1000, 1));
        Check.same("nothing got in pool 1 is no fault", half.route(0, 1000, 0), 0);
        Check.same("its price moved", half.price(1), 1254299944L);
        Check.same("what was got in pool 0 is kept", half.balance(0, 1), 50000000 - 707961 + 999);
    }

    private static void promise8RefusesPricesAtTheLimit() {
        RangeExchange x = lent(0, 0);
        x.swap(0, 1, true, 40000000, -40);
        Seen.refused(x, "route with pool 1 at the limit", STATE, () -> x.route(1, 1000, 0));
        RangeExchange y = lent(0, 0);
        y.swap(0, 0, true, 40000000, -40);
        Seen.refused(y, "route with pool 0 at the limit", STATE, () -> y.route(1, 1000, 0));
        y.swap(0, 0, false, 1000, 40);
        Check.holds("route from just above the limit", y.route(1, 1000, 0) > 0);
    }

    private static void promise9PaidIsOfTheFirstSwap() {
        RangeExchange x = lent(100, 0);
        x.route(1, 1000, 0);
        Check.same("paid of token 0", x.paid(), 1000);
        Check.refuses("a refused route", STATE, () -> x.route(1, 2000, 100000));
        Check.same("is not the latest", x.paid(), 1000);
        x.swap(0, 0, true, 10, -40);
        Check.same("a swap after the route", x.paid(), 10);
    }

    private static void promise15Held() {
        RangeExchange x = lent(0, 0);
        Check.same("near of pool 0", x.held(0), 707961);
        Check.same("far of pool 0 and near of pool 1", x.held(1), 707961 + 707961);
        Check.same("far of pool 1", x.held(2), 707961);
        x.swap(1, 0, true, 1000, -40);
        Check.same("a swap brings in", x.held(0), 707961 + 1000);
        Check.same("and takes out", x.held(1), 707961 + 707961 - 999);
        x.burn(0, 0, -40, 40, 1000000);
        Check.same("what is owed is held", x.held(0), 707961 + 1000);
        x.collect(0, 0, -40, 40);
        Check.holds("little is held after collect", x.held(0) >= 0 && x.held(0) <= 2);
        for (int token : new int[] {-1, 3, Integer.MIN_VALUE, Integer.MAX_VALUE}) {
            Check.refuses("held of token " + token, INDEX, () -> x.held(token));
        }
    }
}
