import java.math.BigInteger;
import java.util.ArrayList;
import java.util.List;
import java.util.Map;
import java.util.NoSuchElementException;
import java.util.TreeMap;

/**
 * The document once more, in numbers without a bound and with copies of all state instead of care:
 * what RangeExchange answers is held against what this answers.
 */
final class Model implements Face {
    static final BigInteger ONE = BigInteger.ONE.shiftLeft(32);
    private static final BigInteger WRAP = BigInteger.ONE.shiftLeft(64);

    /** The ticks' and the pools' part of the state. */
    static final class Tick {
        BigInteger gross = BigInteger.ZERO;
        BigInteger net = BigInteger.ZERO;
        BigInteger[] outside = {BigInteger.ZERO, BigInteger.ZERO};
    }

    static final class Pool {
        int fee;
        BigInteger price = ONE;
        int tick = 0;
        BigInteger liquidity = BigInteger.ZERO;
        BigInteger[] growth = {BigInteger.ZERO, BigInteger.ZERO};
        TreeMap<Integer, Tick> ticks = new TreeMap<>();

        Pool(int fee) {
            this.fee = fee;
            for (int t = -40; t <= 40; t++) {
                ticks.put(t, new Tick());
            }
        }

        Pool copy() {
            Pool other = new Pool(fee);
            other.price = price;
            other.tick = tick;
            other.liquidity = liquidity;
            other.growth = growth.clone();
            for (Map.Entry<Integer, Tick> e : ticks.entrySet()) {
                Tick mine = other.ticks.get(e.getKey());
                mine.gross = e.getValue().gross;
                mine.net = e.getValue().net;
                mine.outside = e.getValue().outside.clone();
            }
            return other;
        }

        boolean isSet(int t) {
            return ticks.get(t).gross.signum() != 0;
        }

        BigInteger inside(int side, int lo, int hi) {
            BigInteger o = ticks.get(lo).outside[side];
            BigInteger below = tick >= lo ? o : growth[side].subtract(o);
            o = ticks.get(hi).outside[side];
            BigInteger above = tick < hi ? o : growth[side].subtract(o);
            return growth[side].subtract(below).subtract(above).mod(WRAP);
        }
    }

    static final class Position {
        BigInteger amount = BigInteger.ZERO;
        BigInteger[] inside = {BigInteger.ZERO, BigInteger.ZERO};
        BigInteger[] owed = {BigInteger.ZERO, BigInteger.ZERO};
    }

    /** What a swap came to: the pool after it, what was paid, what was got. */
    static final class Swapped {
        Pool pool;
        BigInteger paid = BigInteger.ZERO;
        BigInteger got = BigInteger.ZERO;
    }

    private final BigInteger[][] balances = new BigInteger[4][3];
    private final BigInteger[] given = new BigInteger[3];
    private final BigInteger[] held = new BigInteger[3];
    private final Pool[] pools = new Pool[2];
    private final TreeMap<String, Position> positions = new TreeMap<>();
    private BigInteger paid = BigInteger.ZERO;
    int crossings = 0;

    Model(int first, int second) {
        pools[0] = new Pool(Math.min(100, Math.max(0, first)));
        pools[1] = new Pool(Math.min(100, Math.max(0, second)));
        for (int token = 0; token < 3; token++) {
            given[token] = BigInteger.ZERO;
            held[token] = BigInteger.ZERO;
            for (int owner = 0; owner < 4; owner++) {
                balances[owner][token] = BigInteger.ZERO;
            }
        }
    }

    static BigInteger root(int t) {
        BigInteger r = ONE;
        for (int i = 0; i < t; i++) {
            r = r.add(r.divide(big(32)));
        }
        for (int i = 0; i > t; i--) {
            r = r.subtract(r.divide(big(33)));
        }
        return r;
    }

    private static BigInteger big(long x) {
        return BigInteger.valueOf(x);
    }

    private static BigInteger over(BigInteger x, BigInteger y, boolean up) {
        BigInteger[] parts = x.divideAndRemainder(y);
        return up && parts[1].signum() != 0 ? parts[0].add(BigInteger.ONE) : parts[0];
    }

    static BigInteger near(BigInteger a, BigInteger b, BigInteger l, boolean up) {
        return over(over(l.multiply(ONE).multiply(b.subtract(a)), b, up), a, up);
    }

    static BigInteger far(BigInteger a, BigInteger b, BigInteger l, boolean up) {
        return over(l.multiply(b.subtract(a)), ONE, up);
    }

    private static void need(boolean truth) {
        if (!truth) {
            throw new IndexOutOfBoundsException();
        }
    }

    private static boolean in(int x, int lo, int hi) {
        return x >= lo && x <= hi;
    }

    /** Where there are positions. */
    List<Counted.Place> places() {
        List<Counted.Place> all = new ArrayList<>();
        for (String key : positions.keySet()) {
            String[] parts = key.split("/");
            all.add(new Counted.Place(Integer.parseInt(parts[0]), Integer.parseInt(parts[1]),
                    Integer.parseInt(parts[2]), Integer.parseInt(parts[3])));
        }
        return all;
    }

    private static String key(int owner, int pool, int lo, int hi) {
        return owner + "/" + pool + "/" + lo + "/" + hi;
    }

    @Override
    public long give(int owner, int token, int amount) {
        need(in(owner, 0, 3) && in(token, 0, 2));
        if (amount < 0 || given[token].add(big(amount)).compareTo(big(100000000)) > 0) {
            throw new IllegalArgumentException();
        }
        given[token] = given[token].add(big(amount));
        balances[owner][token] = balances[owner][token].add(big(amount));
        return balances[owner][token].longValueExact();
    }

    @Override
    public long balance(int owner, int token) {
        need(in(owner, 0, 3) && in(token, 0, 2));
        return balances[owner][token].longValueExact();
    }

    BigInteger[] worth(int pool, int lo, int hi, BigInteger l, boolean up) {
        Pool p = pools[pool];
        if (p.tick < lo) {
            return new BigInteger[] {near(root(lo), root(hi), l, up), BigInteger.ZERO};
        }
        if (p.tick >= hi) {
            return new BigInteger[] {BigInteger.ZERO, far(root(lo), root(hi), l, up)};
        }
        return new BigInteger[] {near(p.price, root(hi), l, up), far(root(lo), p.price, l, up)};
    }

    private void settle(Position q, int pool, int lo, int hi) {
        for (int side = 0; side < 2; side++) {
            BigInteger inside = pools[pool].inside(side, lo, hi);
            BigInteger d = inside.subtract(q.inside[side]).mod(WRAP);
            q.owed[side] = q.owed[side].add(d.multiply(q.amount).divide(ONE));
            q.inside[side] = inside;
        }
    }

    private void add(Position q, int pool, int lo, int hi, BigInteger l) {
        Pool p = pools[pool];
        for (int t : new int[] {lo, hi}) {
            Tick tick = p.ticks.get(t);
            if (tick.gross.signum() == 0) {
                for (int side = 0; side < 2; side++) {
                    tick.outside[side] = p.tick >= t ? p.growth[side] : BigInteger.ZERO;
                }
            }
            tick.gross = tick.gross.add(l);
            tick.net = t == lo ? tick.net.add(l) : tick.net.subtract(l);
        }
        settle(q, pool, lo, hi);
        q.amount = q.amount.add(l);
        if (lo <= p.tick && p.tick < hi) {
            p.liquidity = p.liquidity.add(l);
        }
        for (int t : new int[] {lo, hi}) {
            if (!p.isSet(t)) {
                p.ticks.put(t, new Tick());
            }
        }
    }

    private void dropIfNone(String key) {
        Position q = positions.get(key);
        if (q.amount.signum() == 0 && q.owed[0].signum() == 0 && q.owed[1].signum() == 0) {
            positions.remove(key);
        }
    }

    @Override
    public long mint(int owner, int pool, int lo, int hi, int l) {
        need(in(owner, 0, 3) && in(pool, 0, 1) && in(lo, -40, 40) && in(hi, -40, 40));
        Position q = positions.get(key(owner, pool, lo, hi));
        BigInteger amount = q == null ? BigInteger.ZERO : q.amount;
        if (lo >= hi || !in(l, 1, 50000000) || amount.add(big(l)).compareTo(big(50000000)) > 0) {
            throw new IllegalArgumentException();
        }
        BigInteger[] price = worth(pool, lo, hi, big(l), true);
        if (q == null && positions.size() == 12
                || balances[owner][pool].compareTo(price[0]) < 0
                || balances[owner][pool + 1].compareTo(price[1]) < 0) {
            throw new IllegalStateException();
        }
        if (q == null) {
            q = new Position();
            positions.put(key(owner, pool, lo, hi), q);
        }
        add(q, pool, lo, hi, big(l));
        for (int side = 0; side < 2; side++) {
            move(owner, pool + side, price[side]);
        }
        return q.amount.longValueExact();
    }

    /** From an owner to the pools, or back when below 0. */
    private void move(int owner, int token, BigInteger amount) {
        balances[owner][token] = balances[owner][token].subtract(amount);
        held[token] = held[token].add(amount);
    }

    @Override
    public long burn(int owner, int pool, int lo, int hi, int l) {
        need(in(owner, 0, 3) && in(pool, 0, 1) && in(lo, -40, 40) && in(hi, -40, 40));
        if (lo >= hi || l < 0) {
            throw new IllegalArgumentException();
        }
        Position q = positions.get(key(owner, pool, lo, hi));
        if (q == null) {
            throw new NoSuchElementException();
        }
        if (big(l).compareTo(q.amount) > 0) {
            throw new IllegalStateException();
        }
        if (l == 0) {
            settle(q, pool, lo, hi);
        } else {
            add(q, pool, lo, hi, big(-(long) l));
        }
        BigInteger[] worth = worth(pool, lo, hi, big(l), false);
        q.owed[0] = q.owed[0].add(worth[0]);
        q.owed[1] = q.owed[1].add(worth[1]);
        dropIfNone(key(owner, pool, lo, hi));
        return q.amount.longValueExact();
    }

    @Override
    public long collect(int owner, int pool, int lo, int hi) {
        need(in(owner, 0, 3) && in(pool, 0, 1) && in(lo, -40, 40) && in(hi, -40, 40));
        Position q = positions.get(key(owner, pool, lo, hi));
        if (q == null) {
            throw new NoSuchElementException();
        }
        long sum = q.owed[0].add(q.owed[1]).longValueExact();
        for (int side = 0; side < 2; side++) {
            move(owner, pool + side, q.owed[side].negate());
            q.owed[side] = BigInteger.ZERO;
        }
        dropIfNone(key(owner, pool, lo, hi));
        return sum;
    }

    private static int nextTick(Pool p, boolean down) {
        if (down) {
            for (int t = 40; t >= -40; t--) {
                if (t <= p.tick && p.isSet(t)) {
                    return t;
                }
            }
            return -40;
        }
        for (int t = -40; t <= 40; t++) {
            if (t > p.tick && p.isSet(t)) {
                return t;
            }
        }
        return 40;
    }

    private static BigInteger newPrice(Pool p, boolean down, boolean exactIn, BigInteger rest,
            BigInteger target) {
        BigInteger s = p.price;
        BigInteger l = p.liquidity;
        BigInteger lOne = l.multiply(ONE);
        if (exactIn) {
            BigInteger r = rest.multiply(big(1000 - p.fee)).divide(big(1000));
            BigInteger needed = down ? near(target, s, l, true) : far(s, target, l, true);
            if (r.compareTo(needed) >= 0) {
                return target;
            }
            return down ? over(lOne.multiply(s), lOne.add(r.multiply(s)), true)
                    : s.add(over(r.multiply(ONE), l, false));
        }
        BigInteger had = down ? far(target, s, l, false) : near(s, target, l, false);
        if (rest.compareTo(had) >= 0) {
            return target;
        }
        return down ? s.subtract(over(rest.multiply(ONE), l, true))
                : over(lOne.multiply(s), lOne.subtract(rest.multiply(s)), true);
    }

    private Swapped run(Pool before, boolean down, BigInteger amount, BigInteger limit) {
        Swapped w = new Swapped();
        Pool p = before.copy();
        w.pool = p;
        boolean exactIn = amount.signum() > 0;
        BigInteger rest = amount.abs();
        while (rest.signum() != 0 && !p.price.equals(limit)) {
            int next = nextTick(p, down);
            BigInteger s = p.price;
            BigInteger target = s.subtract(limit).abs().compareTo(s.subtract(root(next)).abs()) < 0
                    ? limit : root(next);
            BigInteger to = newPrice(p, down, exactIn, rest, target);
            BigInteger l = p.liquidity;
            BigInteger taken = down ? near(to, s, l, true) : far(s, to, l, true);
            BigInteger out = down ? far(to, s, l, false) : near(s, to, l, false);
            if (!exactIn) {
                out = out.min(rest);
            }
            BigInteger fee = exactIn && !to.equals(target) ? rest.subtract(taken)
                    : over(taken.multiply(big(p.fee)), big(1000 - p.fee), true);
            rest = rest.subtract(exactIn ? taken.add(fee) : out);
            if (rest.signum() < 0) {
                throw new AssertionError("rest below 0");
            }
            w.paid = w.paid.add(taken).add(fee);
            w.got = w.got.add(out);
            int in = down ? 0 : 1;
            if (l.signum() != 0) {
                p.growth[in] = p.growth[in].add(over(fee.multiply(ONE), l, false));
            }
            p.price = to;
            if (to.equals(root(next))) {
                if (p.isSet(next)) {
                    crossings++;
                    Tick crossed = p.ticks.get(next);
                    for (int side = 0; side < 2; side++) {
                        crossed.outside[side] = p.growth[side].subtract(crossed.outside[side]);
                    }
                    p.liquidity = down ? l.subtract(crossed.net) : l.add(crossed.net);
                }
                p.tick = down ? next - 1 : next;
            } else if (!to.equals(s)) {
                p.tick = -40;
                for (int t = -40; t <= 40; t++) {
                    if (root(t).compareTo(to) <= 0) {
                        p.tick = t;
                    }
                }
            }
        }
        return w;
    }

    @Override
    public long swap(int owner, int pool, boolean down, int amount, int limit) {
        need(in(owner, 0, 3) && in(pool, 0, 1) && in(limit, -40, 40));
        int side = root(limit).compareTo(pools[pool].price);
        if (amount == 0 || !in(amount, -100000000, 100000000) || (down ? side >= 0 : side <= 0)) {
            throw new IllegalArgumentException();
        }
        Swapped w = run(pools[pool], down, big(amount), root(limit));
        int in = down ? pool : pool + 1;
        int out = down ? pool + 1 : pool;
        if (balances[owner][in].compareTo(w.paid) < 0) {
            throw new IllegalStateException();
        }
        pools[pool] = w.pool;
        move(owner, in, w.paid);
        move(owner, out, w.got.negate());
        paid = w.paid;
        return w.got.longValueExact();
    }

    @Override
    public long route(int owner, int amount, int least) {
        need(in(owner, 0, 3));
        if (!in(amount, 1, 100000000)) {
            throw new IllegalArgumentException();
        }
        if (pools[0].price.equals(root(-40)) || pools[1].price.equals(root(-40))) {
            throw new IllegalStateException();
        }
        Swapped a = run(pools[0], true, big(amount), root(-40));
        if (balances[owner][0].compareTo(a.paid) < 0 || a.got.signum() == 0) {
            throw new IllegalStateException();
        }
        Swapped b = run(pools[1], true, a.got, root(-40));
        if (b.got.compareTo(big(least)) < 0) {
            throw new IllegalStateException();
        }
        pools[0] = a.pool;
        pools[1] = b.pool;
        move(owner, 0, a.paid);
        move(owner, 1, a.got.negate());
        move(owner, 1, b.paid);
        move(owner, 2, b.got.negate());
        paid = a.paid;
        return b.got.longValueExact();
    }

    @Override
    public long paid() {
        return paid.longValueExact();
    }

    @Override
    public long price(int pool) {
        need(in(pool, 0, 1));
        return pools[pool].price.longValueExact();
    }

    @Override
    public long tick(int pool) {
        need(in(pool, 0, 1));
        return pools[pool].tick;
    }

    @Override
    public long liquidity(int pool) {
        need(in(pool, 0, 1));
        return pools[pool].liquidity.intValueExact();
    }

    @Override
    public long growth(int pool, int side) {
        need(in(pool, 0, 1) && in(side, 0, 1));
        return pools[pool].growth[side].longValue();
    }

    @Override
    public long position(int owner, int pool, int lo, int hi, int what) {
        Position q = positions.get(key(owner, pool, lo, hi));
        if (q == null || !in(what, 0, 2)) {
            return 0;
        }
        return what == 0 ? q.amount.longValueExact() : q.owed[what - 1].longValueExact();
    }

    @Override
    public long held(int token) {
        need(in(token, 0, 2));
        return held[token].longValueExact();
    }
}
