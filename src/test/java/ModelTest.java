import java.util.ArrayList;
import java.util.List;
import java.util.Random;

/**
 * Long runs of mixed calls, each answer held against the Model. Now and then the run so far is made once
 * more on a new object, of which all is read then: so no object is asked more than its 512 calls.
 */
public final class ModelTest {
    private static final int RUNS = 560;
    private static final int MOODS = 7;
    private static final int AT_THE_TOP = 5;
    private static final int AT_THE_BOTTOM = 6;
    private static final int READ_EVERY = 9;
    private static final int MOST_READ = 70;
    private static final String[] KINDS = {"give", "mint", "burn", "collect", "swap", "route", "reading"};

    private static final int[] fair = new int[KINDS.length];
    private static int crossings = 0;
    private static long mostLiquidity = 0;
    private static int fullyRead = 0;

    private final Random random;
    private final int mood;
    private final int crowded;
    private final int first;
    private final int second;
    private final Counted x;
    private final Model m;
    private final List<Edge.Act> made = new ArrayList<>();
    private final StringBuilder log = new StringBuilder();

    private ModelTest(int seed) {
        random = new Random(seed);
        mood = seed % MOODS;
        crowded = seed / MOODS % 2;
        first = pick(-1, 0, 1, 3, 30, 99, 100, 101, Integer.MAX_VALUE);
        second = pick(Integer.MIN_VALUE, 0, 2, 10, 50, 100, 1000);
        x = new Counted(first, second);
        m = new Model(first, second);
        log.append("new(").append(first).append(", ").append(second).append(")");
    }

    public static void main(String[] args) {
        for (int seed = 0; seed < RUNS; seed++) {
            new ModelTest(seed).run();
        }
        System.out.println("ticks crossed: " + crossings + ", most liquidity: " + mostLiquidity
                + ", fully read: " + fullyRead);
        Check.holds("the runs cross ticks", crossings > 10000);
        Check.holds("the runs reach the most liquidity", mostLiquidity > 550000000);
        Check.holds("the runs are read", fullyRead > 10000);
        for (int kind = 0; kind < KINDS.length; kind++) {
            System.out.println(KINDS[kind] + " done without an exception: " + fair[kind]);
            Check.holds(KINDS[kind] + " is done often", fair[kind] > 1000);
        }
        Check.finish("ModelTest");
    }

    private void run() {
        boolean ok = mood < AT_THE_TOP || crowd();
        while (ok && x.calls() < Counted.MOST_CALLS) {
            ok = call();
            mostLiquidity = Math.max(mostLiquidity, Math.max(m.liquidity(0), m.liquidity(1)));
            if (ok && made.size() % READ_EVERY == 0 && made.size() + MOST_READ <= Counted.MOST_CALLS) {
                ok = isReadTheSame();
            }
        }
        crossings += m.crossings;
    }

    /**
     * Twelve positions of the most liquidity stand upon one another at an end of the ticks, and
     * one owner has enough to move the price through them.
     */
    private boolean crowd() {
        boolean ok = true;
        for (int i = 0; i < 12; i++) {
            int owner = i % 4;
            int token = i / 4;
            boolean moves = token == (mood == AT_THE_TOP ? crowded + 1 : crowded);
            ok = ok && give(owner, token, !moves ? 25000000 : owner == 0 ? 97000000 : 1000000);
        }
        for (int i = 0; i < 12; i++) {
            int lo = mood == AT_THE_TOP ? 37 + i / 4 : -40;
            int hi = mood == AT_THE_TOP ? 40 : -37 - i / 4;
            ok = ok && mint(i % 4, crowded, lo, hi, 50000000);
        }
        return ok;
    }

    private int pick(int... from) {
        return from[random.nextInt(from.length)];
    }

    private int between(int lo, int hi) {
        return lo + random.nextInt(hi - lo + 1);
    }

    private int owner() {
        return random.nextInt(60) == 0 ? pick(-1, 4, Integer.MIN_VALUE, Integer.MAX_VALUE) : between(0, 3);
    }

    private int token() {
        return random.nextInt(60) == 0 ? pick(-1, 3, Integer.MIN_VALUE, Integer.MAX_VALUE) : between(0, 2);
    }

    private int pool() {
        if (mood >= AT_THE_TOP && random.nextInt(20) != 0) {
            return crowded;
        }
        return random.nextInt(60) == 0 ? pick(-1, 2, Integer.MIN_VALUE, Integer.MAX_VALUE) : between(0, 1);
    }

    private int tick() {
        if (random.nextInt(80) == 0) {
            return pick(-41, 41, Integer.MIN_VALUE, Integer.MAX_VALUE);
        }
        if (mood == AT_THE_TOP && random.nextInt(10) != 0) {
            return between(35, 40);
        }
        if (mood == AT_THE_BOTTOM && random.nextInt(10) != 0) {
            return between(-40, -35);
        }
        switch (random.nextInt(4)) {
            case 0:
                return between(-40, 40);
            case 1:
                return between(-3, 3);
            case 2:
                return pick(-40, -39, -38, 38, 39, 40);
            default:
                return (int) Math.max(-40, Math.min(40, m.tick(between(0, 1)) + between(-2, 2)));
        }
    }

    private int size() {
        if (random.nextInt(40) == 0) {
            return pick(0, -1, 50000001, 100000001, -100000001, Integer.MIN_VALUE, Integer.MAX_VALUE);
        }
        switch (mood) {
            case 0:
                return between(1, 30);
            case 1:
                return between(1, 3000);
            case 2:
                return between(1, 50000000);
            case 3:
                return pick(1, 2, 50000000, 49999999, 100000000);
            case AT_THE_TOP:
            case AT_THE_BOTTOM:
                return random.nextInt(4) == 0 ? 1 << between(0, 26) : between(45000000, 50000000);
            default:
                return 1 << between(0, 26);
        }
    }

    private boolean call() {
        int a = tick();
        int b = tick();
        int lo = random.nextInt(20) == 0 ? a : Math.min(a, b);
        int hi = random.nextInt(20) == 0 ? b : Math.max(a, b);
        switch (pick(0, 1, 1, 1, 1, 2, 2, 2, 3, 3, 4, 4, 4, 4, 4, 4, 4, 5, 5, 6)) {
            case 0:
                return give(owner(), token(), mood < 2 ? size() * 40 : size());
            case 1:
                return mint(owner(), pool(), lo, hi, size());
            case 2:
                return burn(placeOr(owner(), pool(), lo, hi));
            case 3:
                return collect(placeOr(owner(), pool(), lo, hi));
            case 4:
                return swap(owner(), pool(), random.nextBoolean());
            case 5:
                return route(owner(), size());
            default:
                return reading(placeOr(owner(), pool(), lo, hi));
        }
    }

    /** Mostly a position that there is. */
    private Counted.Place placeOr(int owner, int pool, int lo, int hi) {
        List<Counted.Place> places = m.places();
        return places.isEmpty() || random.nextInt(15) == 0 ? new Counted.Place(owner, pool, lo, hi)
                : places.get(random.nextInt(places.size()));
    }

    private boolean give(int owner, int token, int amount) {
        return both(0, owner + ", " + token + ", " + amount, f -> f.give(owner, token, amount));
    }

    private boolean mint(int owner, int pool, int lo, int hi, int l) {
        return both(1, owner + ", " + pool + ", " + lo + ", " + hi + ", " + l,
                f -> f.mint(owner, pool, lo, hi, l));
    }

    private boolean burn(Counted.Place p) {
        int amount = (int) m.position(p.owner, p.pool, p.lo, p.hi, 0);
        int l = mood >= AT_THE_TOP ? pick(0, 0, 0, 0, 0, 1, amount, amount / 100)
                : pick(0, amount, amount / 2, amount + 1, size(), 1);
        return both(2, p + ", " + l, f -> f.burn(p.owner, p.pool, p.lo, p.hi, l));
    }

    private boolean collect(Counted.Place p) {
        return both(3, p.toString(), f -> f.collect(p.owner, p.pool, p.lo, p.hi));
    }

    private boolean swap(int owner, int pool, boolean down) {
        int amount = random.nextBoolean() ? size() : -size();
        int limit = random.nextInt(3) == 0 ? tick() : down ? -40 : 40;
        return both(4, owner + ", " + pool + ", " + down + ", " + amount + ", " + limit,
                f -> f.swap(owner, pool, down, amount, limit));
    }

    private boolean route(int owner, int amount) {
        int least = pick(0, 0, -5, 1, size(), amount / 2, Integer.MIN_VALUE);
        return both(5, owner + ", " + amount + ", " + least, f -> f.route(owner, amount, least));
    }

    private boolean reading(Counted.Place p) {
        int owner = owner();
        int token = token();
        int pool = pool();
        int side = pick(-1, 0, 1, 2, Integer.MIN_VALUE, Integer.MAX_VALUE);
        int what = pick(-1, 0, 1, 2, 3, Integer.MIN_VALUE, Integer.MAX_VALUE);
        switch (random.nextInt(8)) {
            case 0:
                return both(6, "balance " + owner + ", " + token, f -> f.balance(owner, token));
            case 1:
                return both(6, "held " + token, f -> f.held(token));
            case 2:
                return both(6, "price " + pool, f -> f.price(pool));
            case 3:
                return both(6, "tick " + pool, f -> f.tick(pool));
            case 4:
                return both(6, "liquidity " + pool, f -> f.liquidity(pool));
            case 5:
                return both(6, "growth " + pool + ", " + side, f -> f.growth(pool, side));
            case 6:
                return both(6, "position " + p + ", " + what,
                        f -> f.position(p.owner, p.pool, p.lo, p.hi, what));
            default:
                return both(6, "paid", f -> f.paid());
        }
    }

    private boolean both(int kind, String arguments, Edge.Act act) {
        String text = KINDS[kind] + "(" + arguments + ")";
        log.append("; ").append(text);
        made.add(act);
        String got = Check.outcome(() -> act.on(x));
        String due = Check.outcome(() -> act.on(m));
        if (!due.startsWith("throws")) {
            fair[kind]++;
        }
        return agree(text, got, due);
    }

    private boolean agree(String what, String got, String due) {
        Check.same(what, got, due);
        if (!got.equals(due)) {
            System.out.println("  at the end of " + log);
        }
        return got.equals(due);
    }

    private boolean isReadTheSame() {
        Counted again = new Counted(first, second);
        for (Edge.Act act : made) {
            Check.outcome(() -> act.on(again));
        }
        fullyRead++;
        tokensAreKept();
        return agree("all that can be seen", Seen.of(again, m.places()), Seen.of(m, m.places()));
    }

    private void tokensAreKept() {
        for (int token = 0; token < 3; token++) {
            long all = m.held(token);
            Check.holds("held(" + token + ") is not below 0", all >= 0);
            for (int owner = 0; owner < 4; owner++) {
                all += m.balance(owner, token);
            }
            Check.holds("no token is made", all <= 100000000);
        }
    }
}
