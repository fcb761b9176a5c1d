import java.util.NoSuchElementException;

/**
 * The two sides of a boundary: the last input that is still allowed, and the first that is not. Each is
 * tried on an object of its own, so that no case leans on the one before it.
 */
final class Edge {
    static final Class<IndexOutOfBoundsException> INDEX = IndexOutOfBoundsException.class;
    static final Class<IllegalArgumentException> ARGUMENT = IllegalArgumentException.class;
    static final Class<IllegalStateException> STATE = IllegalStateException.class;
    static final Class<NoSuchElementException> NONE = NoSuchElementException.class;
    private static final int LEAST = Integer.MIN_VALUE;
    private static final int GREATEST = Integer.MAX_VALUE;
    static final int[] OUT_OF_OWNERS = {-1, 4, LEAST, GREATEST};
    static final int[] OUT_OF_TOKENS = {-1, 3, LEAST, GREATEST};
    static final int[] OUT_OF_POOLS = {-1, 2, LEAST, GREATEST};
    static final int[] OUT_OF_SIDES = {-1, 2, LEAST, GREATEST};
    static final int[] OUT_OF_TICKS = {-41, 41, LEAST, GREATEST};

    interface Maker {
        Counted make();
    }

    interface Act {
        long on(Face x);
    }

    private Edge() {
    }

    static void allowed(String what, Maker maker, Act act, long due) {
        Counted x = maker.make();
        Check.same(what, Check.outcome(() -> act.on(x)), Long.toString(due));
    }

    /** Throws what is due, and nothing has changed by it: not what is seen, nor what comes later. */
    static void refused(String what, Class<? extends RuntimeException> due, Maker maker, Act act) {
        Counted x = maker.make();
        Counted twin = maker.make();
        String before = Seen.of(x);
        Check.refuses(what, due, () -> act.on(x));
        Check.same("what is seen after the refused " + what, Seen.of(x), before);
        Check.same("what comes after the refused " + what, Seen.later(x), Seen.later(twin));
    }
}
