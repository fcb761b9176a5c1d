import java.math.BigInteger;
import java.util.Map;
import java.util.Random;

/** Long runs of mixed calls, each answer and all that can be seen after it held against the Model. */
public final class ModelTest {
    private static final int RUNS = 560;
    private static final int MOODS = 7;
    private static final int AT_THE_TOP = 5;
    private static final int AT_THE_BOTTOM = 6;
    private static final int CALLS = 512;

    private final Random random;
    private final int mood;
    private final int crowded;
    private final RangeExchange x;
    private final Model m;
    private final StringBuilder log = new StringBuilder();

    private ModelTest(int seed) {
        random = new Random(seed);
        mood = seed % MOODS;
        crowded = seed / MOODS % 2;
        int first = pick(-1, 0, 1, 3, 30, 99, 100, 101, Integer.MAX_VALUE);
        int second = pick(Integer.MIN_VALUE, 0, 2, 10, 50, 100, 1000);
        x = new RangeExchange(first, second);
        m = new Model(first, second);
        log.append("new(").append(first).append(", ").append(second).append(")");
        if (mood >= AT_THE_TOP) {
            crowd();
        }
    }

    /**
     * Twelve positions of the most liquidity stand upon one another at an end of the ticks, and
     * one owner has enough to move the price through them.
     */
    private void crowd() {
        int[] none = new int[9];
        for (int i = 0; i < 12; i++) {
            int owner = i % 4;
            int token = i / 4;
            boolean moves = token == (mood == AT_THE_TOP ? crowded + 1 : crowded);
            int amount = !moves ? 25000000 : owner == 0 ? 97000000 : 1000000;
            both(none, 0, "give(" + owner + ", " + token + ", " + amount + ")",
                    () -> x.give(owner, token, amount), () -> m.give(owner, token, amount));
        }
        for (int i = 0; i < 12; i++) {
            int owner = i % 4;
            int lo = mood == AT_THE_TOP ? 37 + i / 4 : -40;
            int hi = mood == AT_THE_TOP ? 40 : -37 - i / 4;
            both(none, 1, "mint(" + args(owner, crowded, lo, hi) + ", 50000000)",
                    () -> x.mint(owner, crowded, lo, hi, 50000000),
                    () -> m.mint(owner, crowded, lo, hi, 50000000));
        }
    }

    public static void main(String[] args) {
        int crossings = 0;
        long most = 0;
        int[] fair = new int[9];
        for (int seed = 0; seed < RUNS; seed++) {
            ModelTest run = new ModelTest(seed);
            for (int i = 0; i < CALLS; i++) {
                if (!run.call(fair)) {
                    break;
                }
                most = Math.max(most, Math.max(run.m.liquidity(0), run.m.liquidity(1)));
            }
            crossings += run.m.crossings;
        }
        System.out.println("ticks crossed: " + crossings + ", calls that did not throw: give " + fair[0]
                + ", mint " + fair[1] + ", burn " + fair[2] + ", collect " + fair[3]
                + ", swap " + fair[4] + ", route " + fair[5]);
        System.out.println("most liquidity: " + most);
        Check.holds("the runs cross ticks", crossings > 10000);
        Check.holds("the runs come near the most liquidity", most > 550000000);
        for (int kind = 0; kind < 6; kind++) {
            Check.holds("calls of kind " + kind + " were done", fair[kind] > 1000);
        }
        Check.finish("ModelTest");
    }

    private int pick(int... from) {
        return from[random.nextInt(from.length)];
    }

    private int between(int lo, int hi) {
        return lo + random.nextInt(hi - lo + 1);
    }

    private int owner() {
        return random.nextInt(60) == 0 ? pick(-1, 4, Integer.MIN_VALUE, Integer.MAX_VALUE) : between(0, 3);
    }

    private int token() {
        return random.nextInt(60) == 0 ? pick(-1, 3, Integer.MIN_VALUE, Integer.MAX_VALUE) : between(0, 2);
    }

    private int pool() {
        if (mood >= AT_THE_TOP && random.nextInt(20) != 0) {
            return crowded;
        }
        return random.nextInt(60) == 0 ? pick(-1, 2, Integer.MIN_VALUE, Integer.MAX_VALUE) : between(0, 1);
    }

    private int tick() {
        if (random.nextInt(80) == 0) {
            return pick(-41, 41, Integer.MIN_VALUE, Integer.MAX_VALUE);
        }
        if (mood == AT_THE_TOP && random.nextInt(10) != 0) {
            return between(35, 40);
        }
        if (mood == AT_THE_BOTTOM && random.nextInt(10) != 0) {
            return between(-40, -35);
        }
        switch (random.nextInt(4)) {
            case 0:
                return between(-40, 40);
            case 1:
                return between(-3, 3);
            case 2:
                return pick(-40, -39, -38, 38, 39, 40);
            default:
                return (int) Math.max(-40, Math.min(40, m.tick(between(0, 1)) + between(-2, 2)));
        }
    }

    private int size() {
        if (random.nextInt(40) == 0) {
            return pick(0, -1, 50000001, 100000001, -100000001, Integer.MIN_VALUE, Integer.MAX_VALUE);
        }
        switch (mood) {
            case 0:
                return between(1, 30);
            case 1:
                return between(1, 3000);
            case 2:
                return between(1, 50000000);
            case 3:
                return pick(1, 2, 50000000, 49999999, 100000000);
            case AT_THE_TOP:
            case AT_THE_BOTTOM:
                return random.nextInt(4) == 0 ? 1 << between(0, 26) : between(45000000, 50000000);
            default:
                return 1 << between(0, 26);
        }
    }

    private boolean call(int[] fair) {
        int o = owner();
        int p = pool();
        int a = tick();
        int b = tick();
        int lo = random.nextInt(20) == 0 ? a : Math.min(a, b);
        int hi = random.nextInt(20) == 0 ? b : Math.max(a, b);
        int kind = pick(0, 1, 1, 1, 1, 2, 2, 2, 3, 3, 4, 4, 4, 4, 4, 4, 4, 5, 5, 6);
        if ((kind == 2 || kind == 3) && !m.positions.isEmpty() && random.nextInt(15) != 0) {
            Object[] keys = m.positions.keySet().toArray();
            String[] parts = ((String) keys[random.nextInt(keys.length)]).split("/");
            o = Integer.parseInt(parts[0]);
            p = Integer.parseInt(parts[1]);
            lo = Integer.parseInt(parts[2]);
            hi = Integer.parseInt(parts[3]);
        }
        boolean ok = compare(kind, o, p, lo, hi, fair);
        return ok && sameState(o, p, lo, hi);
    }

    private boolean compare(int kind, int owner, int pool, int lo, int hi, int[] fair) {
        switch (kind) {
            case 0: {
                int t = token();
                int n = mood < 2 ? size() * 40 : size();
                return both(fair, 0, "give(" + owner + ", " + t + ", " + n + ")",
                        () -> x.give(owner, t, n), () -> m.give(owner, t, n));
            }
            case 1: {
                int l = size();
                return both(fair, 1, "mint(" + args(owner, pool, lo, hi) + ", " + l + ")",
                        () -> x.mint(owner, pool, lo, hi, l), () -> m.mint(owner, pool, lo, hi, l));
            }
            case 2: {
                int amount = (int) m.position(owner, pool, lo, hi, 0);
                int l = mood >= AT_THE_TOP ? pick(0, 0, 0, 0, 0, 1, amount, amount / 100)
                        : pick(0, amount, amount / 2, amount + 1, size(), 1);
                return both(fair, 2, "burn(" + args(owner, pool, lo, hi) + ", " + l + ")",
                        () -> x.burn(owner, pool, lo, hi, l), () -> m.burn(owner, pool, lo, hi, l));
            }
            case 3:
                return both(fair, 3, "collect(" + args(owner, pool, lo, hi) + ")",
                        () -> x.collect(owner, pool, lo, hi), () -> m.collect(owner, pool, lo, hi));
            case 4: {
                boolean down = random.nextBoolean();
                int n = random.nextBoolean() ? size() : -size();
                int limit = random.nextInt(3) == 0 ? tick() : down ? -40 : 40;
                return both(fair, 4,
                        "swap(" + owner + ", " + pool + ", " + down + ", " + n + ", " + limit + ")",
                        () -> x.swap(owner, pool, down, n, limit),
                        () -> m.swap(owner, pool, down, n, limit));
            }
            case 5: {
                int n = size();
                int least = pick(0, 0, -5, 1, size(), n / 2, Integer.MIN_VALUE);
                return both(fair, 5, "route(" + owner + ", " + n + ", " + least + ")",
                        () -> x.route(owner, n, least), () -> m.route(owner, n, least));
            }
            default:
                return readings();
        }
    }

    private static String args(int owner, int pool, int lo, int hi) {
        return owner + ", " + pool + ", " + lo + ", " + hi;
    }

    private boolean readings() {
        int o = owner();
        int t = token();
        int p = pool();
        int s = pick(-1, 0, 1, 2, Integer.MIN_VALUE, Integer.MAX_VALUE);
        int[] none = new int[9];
        return both(none, 6, "balance(" + o + ", " + t + ")", () -> x.balance(o, t), () -> m.balance(o, t))
                && both(none, 6, "held(" + t + ")", () -> x.held(t), () -> m.held(t))
                && both(none, 6, "price(" + p + ")", () -> x.price(p), () -> m.price(p))
                && both(none, 6, "tick(" + p + ")", () -> x.tick(p), () -> m.tick(p))
                && both(none, 6, "liquidity(" + p + ")", () -> x.liquidity(p), () -> m.liquidity(p))
                && both(none, 6, "growth(" + p + ", " + s + ")", () -> x.growth(p, s), () -> m.growth(p, s));
    }

    private boolean both(int[] fair, int kind, String text, Check.Call got, Check.Call due) {
        log.append("; ").append(text);
        String answer = Check.outcome(got);
        String want = Check.outcome(due);
        if (!want.startsWith("throws")) {
            fair[kind]++;
        }
        return agree(text, answer, want);
    }

    private boolean agree(String what, String got, String due) {
        Check.same(what, got, due);
        if (!got.equals(due)) {
            System.out.println("  at the end of " + log);
        }
        return got.equals(due);
    }

    private boolean sameState(int owner, int pool, int lo, int hi) {
        boolean ok = agree("paid()", "" + x.paid(), "" + m.paid());
        for (int t = 0; t < 3 && ok; t++) {
            BigInteger all = BigInteger.valueOf(x.held(t));
            ok = agree("held(" + t + ")", "" + x.held(t), "" + m.held(t));
            Check.holds("held(" + t + ") is not below 0", x.held(t) >= 0);
            for (int o = 0; o < 4 && ok; o++) {
                ok = agree("balance(" + o + ", " + t + ")", "" + x.balance(o, t), "" + m.balance(o, t));
                all = all.add(BigInteger.valueOf(x.balance(o, t)));
            }
            Check.holds("no token is made", all.compareTo(BigInteger.valueOf(100000000)) <= 0);
        }
        for (int p = 0; p < 2 && ok; p++) {
            ok = agree("price(" + p + ")", "" + x.price(p), "" + m.price(p))
                    && agree("tick(" + p + ")", "" + x.tick(p), "" + m.tick(p))
                    && agree("liquidity(" + p + ")", "" + x.liquidity(p), "" + m.liquidity(p))
                    && agree("growth(" + p + ", 0)", "" + x.growth(p, 0), "" + m.growth(p, 0))
                    && agree("growth(" + p + ", 1)", "" + x.growth(p, 1), "" + m.growth(p, 1));
        }
        for (Map.Entry<String, Model.Position> e : m.positions.entrySet()) {
            String[] k = e.getKey().split("/");
            ok = ok && samePosition(Integer.parseInt(k[0]), Integer.parseInt(k[1]),
                    Integer.parseInt(k[2]), Integer.parseInt(k[3]));
        }
        return ok && samePosition(owner, pool, lo, hi);
    }

    private boolean samePosition(int owner, int pool, int lo, int hi) {
        boolean ok = true;
        for (int what = -1; what <= 3 && ok; what++) {
            ok = agree("position(" + args(owner, pool, lo, hi) + ", " + what + ")",
                    "" + x.position(owner, pool, lo, hi, what),
                    "" + m.position(owner, pool, lo, hi, what));
        }
        return ok;
    }
}
