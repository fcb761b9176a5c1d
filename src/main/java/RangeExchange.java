import java.util.NoSuchElementException;

/** Two pools in which tokens are swapped along a price that moves over ticks. */
public final class RangeExchange {
    private static final int OWNERS = 4;
    private static final int TOKENS = 3;
    private static final int POOLS = 2;
    private static final int SIDES = 2;
    private static final int NEAR = 0;
    private static final int FAR = 1;
    private static final int LOWEST = -40;
    private static final int HIGHEST = 40;
    private static final int TICKS = HIGHEST - LOWEST + 1;
    private static final int MOST_POSITIONS = 12;
    private static final int MOST_LENT = 50000000;
    private static final int MOST_GIVEN = 100000000;
    private static final int MOST_FEE = 100;
    private static final int WHOLE_FEE = 1000;
    private static final int SHIFT = 32;
    private static final long ONE = 1L << SHIFT;
    // A step that does not end its trade crosses a tick, so a trade has at most TICKS + 1 of them.
    private static final int MOST_STEPS = 1000;

    private final long[] balances = new long[OWNERS * TOKENS];
    private final long[] given = new long[TOKENS];
    private final long[] holdings = new long[TOKENS];
    private final Roots roots = new Roots();
    private final Pool[] pools = new Pool[POOLS];
    private final Position[] positions = new Position[MOST_POSITIONS];
    private final Trade firstTrade = new Trade(roots);
    private final Trade secondTrade = new Trade(roots);
    private long latestPaid = 0;

    public RangeExchange(int first, int second) {
        pools[0] = new Pool(roots, first);
        pools[1] = new Pool(roots, second);
        for (int i = 0; i < MOST_POSITIONS; i++) {
            positions[i] = new Position();
        }
    }

    public long give(int owner, int token, int amount)
            throws IndexOutOfBoundsException, IllegalArgumentException {
        requireIndex(owner, OWNERS);
        requireIndex(token, TOKENS);
        if (amount < 0 || given[token] + amount > MOST_GIVEN) {
            throw new IllegalArgumentException();
        }
        given[token] += amount;
        balances[account(owner, token)] += amount;
        return balances[account(owner, token)];
    }

    public long balance(int owner, int token) throws IndexOutOfBoundsException {
        requireIndex(owner, OWNERS);
        requireIndex(token, TOKENS);
        return balances[account(owner, token)];
    }

    public int mint(int owner, int pool, int lo, int hi, int l)
            throws IndexOutOfBoundsException, IllegalArgumentException, IllegalStateException {
        requirePlace(owner, pool, lo, hi);
        if (lo >= hi || l < 1 || l > MOST_LENT) {
            throw new IllegalArgumentException();
        }
        Position old = find(owner, pool, lo, hi);
        if (old != null && old.amount + l > MOST_LENT) {
            throw new IllegalArgumentException();
        }
        Position place = old != null ? old : findFree();
        long near = pools[pool].nearWorth(lo, hi, l, true);
        long far = pools[pool].farWorth(lo, hi, l, true);
        if (place == null || lacks(owner, pool + NEAR, near) || lacks(owner, pool + FAR, far)) {
            throw new IllegalStateException();
        }
        if (old == null) {
            place.open(owner, pool, lo, hi);
        }
        pools[pool].add(place, l);
        payIn(owner, pool + NEAR, near);
        payIn(owner, pool + FAR, far);
        return place.amount;
    }

    public int burn(int owner, int pool, int lo, int hi, int l)
            throws IndexOutOfBoundsException, IllegalArgumentException,
            NoSuchElementException, IllegalStateException {
        requirePlace(owner, pool, lo, hi);
        if (lo >= hi || l < 0) {
            throw new IllegalArgumentException();
        }
        Position place = find(owner, pool, lo, hi);
        if (place == null) {
            throw new NoSuchElementException();
        }
        if (l > place.amount) {
            throw new IllegalStateException();
        }
        if (l == 0) {
            place.settle(pools[pool].now);
        } else {
            pools[pool].add(place, -l);
            place.owed[NEAR] += pools[pool].nearWorth(lo, hi, l, false);
            place.owed[FAR] += pools[pool].farWorth(lo, hi, l, false);
        }
        return place.amount;
    }

    public long collect(int owner, int pool, int lo, int hi)
            throws IndexOutOfBoundsException, NoSuchElementException {
        requirePlace(owner, pool, lo, hi);
        Position place = find(owner, pool, lo, hi);
        if (place == null) {
            throw new NoSuchElementException();
        }
        long near = place.owed[NEAR];
        long far = place.owed[FAR];
        place.owed[NEAR] = 0;
        place.owed[FAR] = 0;
        payOut(owner, pool + NEAR, near);
        payOut(owner, pool + FAR, far);
        return near + far;
    }

    public long swap(int owner, int pool, boolean down, int amount, int limit)
            throws IndexOutOfBoundsException, IllegalArgumentException, IllegalStateException {
        requireIndex(owner, OWNERS);
        requireIndex(pool, POOLS);
        requireTick(limit);
        if (amount == 0 || amount < -MOST_GIVEN || amount > MOST_GIVEN
                || !pools[pool].isAhead(roots.at(limit), down)) {
            throw new IllegalArgumentException();
        }
        firstTrade.run(pools[pool], down, amount, roots.at(limit));
        int tokenIn = pool + (down ? NEAR : FAR);
        int tokenOut = pool + (down ? FAR : NEAR);
        if (lacks(owner, tokenIn, firstTrade.paid)) {
            throw new IllegalStateException();
        }
        keep(firstTrade, owner, tokenIn, tokenOut);
        latestPaid = firstTrade.paid;
        return firstTrade.got;
    }

    public long route(int owner, int amount, int least)
            throws IndexOutOfBoundsException, IllegalArgumentException, IllegalStateException {
        requireIndex(owner, OWNERS);
        if (amount < 1 || amount > MOST_GIVEN) {
            throw new IllegalArgumentException();
        }
        long limit = roots.at(LOWEST);
        if (!pools[0].isAhead(limit, true) || !pools[1].isAhead(limit, true)) {
            throw new IllegalStateException();
        }
        firstTrade.run(pools[0], true, amount, limit);
        if (lacks(owner, 0, firstTrade.paid) || firstTrade.got == 0) {
            throw new IllegalStateException();
        }
        secondTrade.run(pools[1], true, firstTrade.got, limit);
        if (secondTrade.got < least) {
            throw new IllegalStateException();
        }
        keep(firstTrade, owner, 0, 1);
        keep(secondTrade, owner, 1, 2);
        latestPaid = firstTrade.paid;
        return secondTrade.got;
    }

    public long paid() {
        return latestPaid;
    }

    public long price(int pool) throws IndexOutOfBoundsException {
        requireIndex(pool, POOLS);
        return pools[pool].now.price;
    }

    public int tick(int pool) throws IndexOutOfBoundsException {
        requireIndex(pool, POOLS);
        return pools[pool].now.tick;
    }

    public int liquidity(int pool) throws IndexOutOfBoundsException {
        requireIndex(pool, POOLS);
        return pools[pool].now.liquidity;
    }

    public long growth(int pool, int side) throws IndexOutOfBoundsException {
        requireIndex(pool, POOLS);
        requireIndex(side, SIDES);
        return pools[pool].now.growth[side];
    }

    public long position(int owner, int pool, int lo, int hi, int what) {
        Position place = find(owner, pool, lo, hi);
        if (place == null) {
            return 0;
        }
        switch (what) {
            case 0:
                return place.amount;
            case 1:
                return place.owed[NEAR];
            case 2:
                return place.owed[FAR];
            default:
                return 0;
        }
    }

    public long held(int token) throws IndexOutOfBoundsException {
        requireIndex(token, TOKENS);
        return holdings[token];
    }

    private static void requireIndex(int index, int count) {
        if (index < 0 || index >= count) {
            throw new IndexOutOfBoundsException();
        }
    }

    private static void requireTick(int t) {
        if (t < LOWEST || t > HIGHEST) {
            throw new IndexOutOfBoundsException();
        }
    }

    private static void requirePlace(int owner, int pool, int lo, int hi) {
        requireIndex(owner, OWNERS);
        requireIndex(pool, POOLS);
        requireTick(lo);
        requireTick(hi);
    }

    private static int account(int owner, int token) {
        return owner * TOKENS + token;
    }

    private Position find(int owner, int pool, int lo, int hi) {
        for (int i = 0; i < MOST_POSITIONS; i++) {
            if (!positions[i].isNone() && positions[i].isOf(owner, pool, lo, hi)) {
                return positions[i];
            }
        }
        return null;
    }

    private Position findFree() {
        for (int i = 0; i < MOST_POSITIONS; i++) {
            if (positions[i].isNone()) {
                return positions[i];
            }
        }
        return null;
    }

    private boolean lacks(int owner, int token, long amount) {
        return balances[account(owner, token)] < amount;
    }

    private void payIn(int owner, int token, long amount) {
        balances[account(owner, token)] -= amount;
        holdings[token] += amount;
    }

    private void payOut(int owner, int token, long amount) {
        balances[account(owner, token)] += amount;
        holdings[token] -= amount;
    }

    private void keep(Trade trade, int owner, int tokenIn, int tokenOut) {
        trade.pool.keepTrial();
        payIn(owner, tokenIn, trade.paid);
        payOut(owner, tokenOut, trade.got);
    }

    /** Quotients of numbers from 0 up. */
    private static final class Quotients {
        static long of(long x, long divisor, boolean up) {
            if (divisor <= 0) {
                return 0;
            }
            long whole = x / divisor;
            return up && x % divisor != 0 ? whole + 1 : whole;
        }

        /**
         * x * 2^32 / divisor. The product has up to 96 bits, so its quotient is found bit by bit;
         * the divisor is at most 2^62, so that twice a remainder is still a long.
         */
        static long ofShifted(long x, long divisor, boolean up) {
            if (divisor <= 0) {
                return 0;
            }
            long whole = x / divisor;
            long rest = x % divisor;
            for (int bit = 0; bit < SHIFT; bit++) {
                whole <<= 1;
                rest <<= 1;
                if (rest >= divisor) {
                    rest -= divisor;
                    whole++;
                }
            }
            return up && rest != 0 ? whole + 1 : whole;
        }

        // At most 12 * 50000000 of liquidity times ROOT(40) is below 2^63, here and in Trade.

        static long near(long a, long b, long liquidity, boolean up) {
            return of(ofShifted(liquidity * (b - a), b, up), a, up);
        }

        static long far(long a, long b, long liquidity, boolean up) {
            return of(liquidity * (b - a), ONE, up);
        }
    }

    /** ROOT of every tick. */
    private static final class Roots {
        private final long[] roots = new long[TICKS];

        Roots() {
            roots[-LOWEST] = ONE;
            for (int i = -LOWEST; i + 1 < TICKS; i++) {
                roots[i + 1] = roots[i] + roots[i] / 32;
            }
            for (int i = -LOWEST; i > 0; i--) {
                roots[i - 1] = roots[i] - roots[i] / 33;
            }
        }

        long at(int t) {
            return roots[t - LOWEST];
        }

        int greatestNotAbove(long price) {
            for (int t = HIGHEST; t > LOWEST; t--) {
                if (at(t) <= price) {
                    return t;
                }
            }
            return LOWEST;
        }
    }

    /** What one owner lent to a pool between two ticks; the same slot serves many in turn. */
    private static final class Position {
        private int owner;
        private int pool;
        private int lo;
        private int hi;
        private int amount;
        private final long[] inside = new long[SIDES];
        private final long[] owed = new long[SIDES];

        boolean isNone() {
            return amount == 0 && owed[NEAR] == 0 && owed[FAR] == 0;
        }

        boolean isOf(int owner, int pool, int lo, int hi) {
            return this.owner == owner && this.pool == pool && this.lo == lo && this.hi == hi;
        }

        void open(int owner, int pool, int lo, int hi) {
            this.owner = owner;
            this.pool = pool;
            this.lo = lo;
            this.hi = hi;
            inside[NEAR] = 0;
            inside[FAR] = 0;
        }

        void settle(Course course) {
            for (int side = 0; side < SIDES; side++) {
                long reached = course.growthInside(side, lo, hi);
                owed[side] += share(reached - inside[side]);
                inside[side] = reached;
            }
        }

        // In two halves, because a growth without a sign times an amount may have 90 bits.
        private long share(long grown) {
            long high = grown >>> SHIFT;
            long low = grown & (ONE - 1);
            return high * amount + ((low * amount) >>> SHIFT);
        }
    }

    /** All of a pool that a swap may change. */
    private static final class Course {
        private long price = ONE;
        private int tick = 0;
        private int liquidity = 0;
        private final long[] growth = new long[SIDES];
        private final long[] outside = new long[SIDES * TICKS];

        void copy(Course other) {
            price = other.price;
            tick = other.tick;
            liquidity = other.liquidity;
            System.arraycopy(other.growth, 0, growth, 0, SIDES);
            System.arraycopy(other.outside, 0, outside, 0, SIDES * TICKS);
        }

        long growthInside(int side, int lo, int hi) {
            return growth[side] - below(side, lo) - above(side, hi);
        }

        void setOutsides(int t) {
            for (int side = 0; side < SIDES; side++) {
                outside[slot(side, t)] = tick >= t ? growth[side] : 0;
            }
        }

        void clearOutsides(int t) {
            for (int side = 0; side < SIDES; side++) {
                outside[slot(side, t)] = 0;
            }
        }

        void turnOutsides(int t) {
            for (int side = 0; side < SIDES; side++) {
                outside[slot(side, t)] = growth[side] - outside[slot(side, t)];
            }
        }

        private long below(int side, int t) {
            long known = outside[slot(side, t)];
            return tick >= t ? known : growth[side] - known;
        }

        private long above(int side, int t) {
            long known = outside[slot(side, t)];
            return tick < t ? known : growth[side] - known;
        }

        private static int slot(int side, int t) {
            return side * TICKS + t - LOWEST;
        }
    }

    /** A pool as it is now, and a second course on which a swap is tried before it is kept. */
    private static final class Pool {
        private final Roots roots;
        private final int fee;
        private final int[] gross = new int[TICKS];
        private final int[] net = new int[TICKS];
        private Course now = new Course();
        private Course trial = new Course();

        Pool(Roots roots, int fee) {
            this.roots = roots;
            this.fee = Math.max(0, Math.min(MOST_FEE, fee));
        }

        void startTrial() {
            trial.copy(now);
        }

        void keepTrial() {
            Course before = now;
            now = trial;
            trial = before;
        }

        boolean isAhead(long limit, boolean down) {
            return down ? limit < now.price : limit > now.price;
        }

        boolean isSet(int t) {
            return gross[t - LOWEST] != 0;
        }

        int netOf(int t) {
            return net[t - LOWEST];
        }

        int nextDown(int from) {
            for (int t = from; t > LOWEST; t--) {
                if (isSet(t)) {
                    return t;
                }
            }
            return LOWEST;
        }

        int nextUp(int from) {
            for (int t = from + 1; t < HIGHEST; t++) {
                if (isSet(t)) {
                    return t;
                }
            }
            return HIGHEST;
        }

        long nearWorth(int lo, int hi, int l, boolean up) {
            if (now.tick >= hi) {
                return 0;
            }
            long from = now.tick < lo ? roots.at(lo) : now.price;
            return Quotients.near(from, roots.at(hi), l, up);
        }

        long farWorth(int lo, int hi, int l, boolean up) {
            if (now.tick < lo) {
                return 0;
            }
            long to = now.tick >= hi ? roots.at(hi) : now.price;
            return Quotients.far(roots.at(lo), to, l, up);
        }

        void add(Position place, int l) {
            growGross(place.lo, l);
            growGross(place.hi, l);
            net[place.lo - LOWEST] += l;
            net[place.hi - LOWEST] -= l;
            place.settle(now);
            place.amount += l;
            if (place.lo <= now.tick && now.tick < place.hi) {
                now.liquidity += l;
            }
            clearIfUnset(place.lo);
            clearIfUnset(place.hi);
        }

        private void growGross(int t, int l) {
            if (!isSet(t)) {
                now.setOutsides(t);
            }
            gross[t - LOWEST] += l;
        }

        private void clearIfUnset(int t) {
            if (!isSet(t)) {
                now.clearOutsides(t);
                net[t - LOWEST] = 0;
            }
        }
    }

    /** A swap as it is tried, step by step, on the trial course of a pool. */
    private static final class Trade {
        private final Roots roots;
        private Pool pool;
        private Course course;
        private boolean down;
        private boolean exactIn;
        private long rest;
        private long limit;
        private long paid;
        private long got;

        Trade(Roots roots) {
            this.roots = roots;
        }

        /** An amount above 0 is to be taken in, one below 0 to be paid out. */
        void run(Pool pool, boolean down, long amount, long limit) {
            pool.startTrial();
            this.pool = pool;
            this.course = pool.trial;
            this.down = down;
            this.exactIn = amount > 0;
            this.rest = amount > 0 ? amount : -amount;
            this.limit = limit;
            this.paid = 0;
            this.got = 0;
            for (int i = 0; i < MOST_STEPS && rest != 0 && course.price != limit; i++) {
                step();
            }
        }

        private void step() {
            int next = down ? pool.nextDown(course.tick) : pool.nextUp(course.tick);
            long end = roots.at(next);
            long target = down ? Math.max(end, limit) : Math.min(end, limit);
            long reached = exactIn ? priceByTaking(target) : priceByPaying(target);
            exchange(reached, reached == target);
            moveTo(reached, next);
        }

        private long priceByTaking(long target) {
            long price = course.price;
            long lent = course.liquidity;
            long useful = Quotients.of(rest * (WHOLE_FEE - pool.fee), WHOLE_FEE, false);
            if (useful >= takenUntil(target)) {
                return target;
            }
            if (down) {
                return Quotients.ofShifted(lent * price, lent * ONE + useful * price, true);
            }
            return price + Quotients.of(useful * ONE, lent, false);
        }

        private long priceByPaying(long target) {
            long price = course.price;
            long lent = course.liquidity;
            if (rest >= paidUntil(target)) {
                return target;
            }
            if (down) {
                return price - Quotients.of(rest * ONE, lent, true);
            }
            return Quotients.ofShifted(lent * price, lent * ONE - rest * price, true);
        }

        private long takenUntil(long reached) {
            return down ? Quotients.near(reached, course.price, course.liquidity, true)
                    : Quotients.far(course.price, reached, course.liquidity, true);
        }

        private long paidUntil(long reached) {
            return down ? Quotients.far(reached, course.price, course.liquidity, false)
                    : Quotients.near(course.price, reached, course.liquidity, false);
        }

        private void exchange(long reached, boolean atTarget) {
            long taken = takenUntil(reached);
            long out = exactIn ? paidUntil(reached) : Math.min(rest, paidUntil(reached));
            long fee = exactIn && !atTarget ? rest - taken
                    : Quotients.of(taken * pool.fee, WHOLE_FEE - pool.fee, true);
            rest -= exactIn ? taken + fee : out;
            paid += taken + fee;
            got += out;
            if (course.liquidity != 0) {
                course.growth[down ? NEAR : FAR] += Quotients.of(fee * ONE, course.liquidity, false);
            }
        }

        private void moveTo(long reached, int next) {
            boolean changed = reached != course.price;
            course.price = reached;
            if (reached == roots.at(next)) {
                if (pool.isSet(next)) {
                    cross(next);
                }
                course.tick = down ? next - 1 : next;
            } else if (changed) {
                course.tick = roots.greatestNotAbove(reached);
            }
        }

        private void cross(int next) {
            course.turnOutsides(next);
            course.liquidity += down ? -pool.netOf(next) : pool.netOf(next);
        }
    }
}
