import java.util.ArrayList;
import java.util.List;

/**
 * A RangeExchange of which a test may ask no more than the 512 calls that the document promises. It
 * remembers the places of all positions that were tried, so that all that can be seen is read in few calls.
 */
final class Counted implements Face {
    static final int MOST_CALLS = 512;

    /** Where a position is, or was, or was refused. */
    static final class Place {
        final int owner;
        final int pool;
        final int lo;
        final int hi;

        Place(int owner, int pool, int lo, int hi) {
            this.owner = owner;
            this.pool = pool;
            this.lo = lo;
            this.hi = hi;
        }

        boolean is(int owner, int pool, int lo, int hi) {
            return this.owner == owner && this.pool == pool && this.lo == lo && this.hi == hi;
        }

        @Override
        public String toString() {
            return owner + " " + pool + " " + lo + " " + hi;
        }
    }

    private final RangeExchange x;
    private final List<Place> places = new ArrayList<>();
    private final int[] given = new int[3];
    private int calls = 0;

    Counted(int first, int second) {
        x = new RangeExchange(first, second);
    }

    /** Each of the four owners has so much of each token. */
    static Counted rich(int first, int second, int each) {
        Counted made = new Counted(first, second);
        for (int owner = 0; owner < 4; owner++) {
            for (int token = 0; token < 3; token++) {
                made.give(owner, token, each);
            }
        }
        return made;
    }

    private RangeExchange next() {
        calls++;
        if (calls > MOST_CALLS) {
            throw new AssertionError("a test asks more than " + MOST_CALLS + " calls of one object");
        }
        return x;
    }

    int calls() {
        return calls;
    }

    List<Place> places() {
        return new ArrayList<>(places);
    }

    /** How much of a token may still be given out. */
    int ungiven(int token) {
        return 100000000 - given[token];
    }

    @Override
    public long give(int owner, int token, int amount) {
        long answer = next().give(owner, token, amount);
        given[token] += amount;
        return answer;
    }

    @Override
    public long balance(int owner, int token) {
        return next().balance(owner, token);
    }

    @Override
    public long mint(int owner, int pool, int lo, int hi, int l) {
        remember(owner, pool, lo, hi);
        return next().mint(owner, pool, lo, hi, l);
    }

    private void remember(int owner, int pool, int lo, int hi) {
        for (Place place : places) {
            if (place.is(owner, pool, lo, hi)) {
                return;
            }
        }
        places.add(new Place(owner, pool, lo, hi));
    }

    @Override
    public long burn(int owner, int pool, int lo, int hi, int l) {
        return next().burn(owner, pool, lo, hi, l);
    }

    @Override
    public long collect(int owner, int pool, int lo, int hi) {
        return next().collect(owner, pool, lo, hi);
    }

    @Override
    public long swap(int owner, int pool, boolean down, int amount, int limit) {
        return next().swap(owner, pool, down, amount, limit);
    }

    @Override
    public long route(int owner, int amount, int least) {
        return next().route(owner, amount, least);
    }

    @Override
    public long paid() {
        return next().paid();
    }

    @Override
    public long price(int pool) {
        return next().price(pool);
    }

    @Override
    public long tick(int pool) {
        return next().tick(pool);
    }

    @Override
    public long liquidity(int pool) {
        return next().liquidity(pool);
    }

    @Override
    public long growth(int pool, int side) {
        return next().growth(pool, side);
    }

    @Override
    public long position(int owner, int pool, int lo, int hi, int what) {
        return next().position(owner, pool, lo, hi, what);
    }

    @Override
    public long held(int token) {
        return next().held(token);
    }
}
