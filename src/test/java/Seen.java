/** All that can be seen of an exchange, as one text, to show that a refused call changed nothing. */
final class Seen {
    private Seen() {
    }

    static String of(RangeExchange x) {
        StringBuilder s = new StringBuilder("paid ").append(x.paid());
        for (int token = 0; token < 3; token++) {
            s.append(" held ").append(x.held(token));
            for (int owner = 0; owner < 4; owner++) {
                s.append(' ').append(x.balance(owner, token));
            }
        }
        for (int pool = 0; pool < 2; pool++) {
            s.append(" pool ").append(x.price(pool)).append(' ').append(x.tick(pool));
            s.append(' ').append(x.liquidity(pool));
            s.append(' ').append(x.growth(pool, 0)).append(' ').append(x.growth(pool, 1));
        }
        for (int owner = 0; owner < 4; owner++) {
            addPositions(s, x, owner);
        }
        return s.toString();
    }

    /** Refused with this exception, and nothing that can be seen is changed. */
    static void refused(RangeExchange x, String what, Class<? extends RuntimeException> due,
            Check.Call call) {
        String before = of(x);
        Check.refuses(what, due, call);
        Check.same("what is seen after the refused " + what, of(x), before);
    }

    private static void addPositions(StringBuilder s, RangeExchange x, int owner) {
        for (int pool = 0; pool < 2; pool++) {
            for (int lo = -40; lo < 40; lo++) {
                for (int hi = lo + 1; hi <= 40; hi++) {
                    addPosition(s, x, owner, pool, lo, hi);
                }
            }
        }
    }

    private static void addPosition(StringBuilder s, RangeExchange x, int owner, int pool, int lo, int hi) {
        long amount = x.position(owner, pool, lo, hi, 0);
        long near = x.position(owner, pool, lo, hi, 1);
        long far = x.position(owner, pool, lo, hi, 2);
        if (amount != 0 || near != 0 || far != 0) {
            s.append(" position ").append(owner).append(' ').append(pool).append(' ').append(lo).append(' ');
            s.append(hi).append(": ").append(amount).append(' ').append(near).append(' ').append(far);
        }
    }
}
