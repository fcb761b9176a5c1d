import java.util.List;

/** All that can be seen of an exchange, as one text. */
final class Seen {
    private Seen() {
    }

    static String of(Counted x) {
        return of(x, x.places());
    }

    /** In 26 calls and 3 for each of these places. */
    static String of(Face x, List<Counted.Place> places) {
        StringBuilder s = new StringBuilder("paid ").append(x.paid());
        for (int token = 0; token < 3; token++) {
            s.append(" held ").append(x.held(token));
            for (int owner = 0; owner < 4; owner++) {
                s.append(' ').append(x.balance(owner, token));
            }
        }
        for (int pool = 0; pool < 2; pool++) {
            s.append(" pool ").append(x.price(pool)).append(' ').append(x.tick(pool));
            s.append(' ').append(x.liquidity(pool));
            s.append(' ').append(x.growth(pool, 0)).append(' ').append(x.growth(pool, 1));
        }
        for (Counted.Place place : places) {
            addPosition(s, x, place);
        }
        return s.toString();
    }

    private static void addPosition(StringBuilder s, Face x, Counted.Place p) {
        long amount = x.position(p.owner, p.pool, p.lo, p.hi, 0);
        long near = x.position(p.owner, p.pool, p.lo, p.hi, 1);
        long far = x.position(p.owner, p.pool, p.lo, p.hi, 2);
        if (amount != 0 || near != 0 || far != 0) {
            s.append(" position ").append(p).append(": ").append(amount);
            s.append(' ').append(near).append(' ').append(far);
        }
    }

    /**
     * What is seen when an exchange is used on to its end: what can still be given, the fees that are
     * owed, every tick crossed both ways, everything burnt and collected. It brings out what cannot be
     * seen at once, such as a tick's net or a position's inside growth.
     */
    static String later(Counted x) {
        StringBuilder s = new StringBuilder();
        for (int token = 0; token < 3; token++) {
            int last = x.ungiven(token);
            int mine = token;
            add(s, () -> x.give(3, mine, last + 1));
            add(s, () -> x.give(3, mine, last));
        }
        for (int owner = 3; owner >= 0; owner--) {
            swapBothWays(s, x, owner, 1000);
        }
        settleAll(s, x);
        s.append(of(x));
        swapBothWays(s, x, 3, 100000000);
        settleAll(s, x);
        s.append(of(x));
        endAll(s, x);
        swapBothWays(s, x, 3, 1);
        return s.append(of(x)).toString();
    }

    private static void add(StringBuilder s, Check.Call call) {
        s.append(Check.outcome(call)).append(' ');
    }

    private static void swapBothWays(StringBuilder s, Counted x, int owner, int amount) {
        for (int pool = 0; pool < 2; pool++) {
            int mine = pool;
            add(s, () -> x.swap(owner, mine, true, amount, -40));
            add(s, () -> x.swap(owner, mine, false, amount, 40));
        }
    }

    private static void settleAll(StringBuilder s, Counted x) {
        for (Counted.Place p : x.places()) {
            addIfAny(s, () -> x.burn(p.owner, p.pool, p.lo, p.hi, 0));
        }
    }

    private static void endAll(StringBuilder s, Counted x) {
        for (Counted.Place p : x.places()) {
            addIfAny(s, () -> x.burn(p.owner, p.pool, p.lo, p.hi,
                    (int) x.position(p.owner, p.pool, p.lo, p.hi, 0)));
            addIfAny(s, () -> x.collect(p.owner, p.pool, p.lo, p.hi));
        }
    }

    /** A place that was refused is no position, and one that was never tried is none as well. */
    private static void addIfAny(StringBuilder s, Check.Call call) {
        String outcome = Check.outcome(call);
        if (!outcome.startsWith("throws")) {
            s.append(outcome).append(' ');
        }
    }
}
