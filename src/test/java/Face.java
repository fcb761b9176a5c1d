/** The document's face, to ask the same of a RangeExchange and of the Model. */
interface Face {
    long give(int owner, int token, int amount);

    long balance(int owner, int token);

    long mint(int owner, int pool, int lo, int hi, int l);

    long burn(int owner, int pool, int lo, int hi, int l);

    long collect(int owner, int pool, int lo, int hi);

    long swap(int owner, int pool, boolean down, int amount, int limit);

    long route(int owner, int amount, int least);

    long paid();

    long price(int pool);

    long tick(int pool);

    long liquidity(int pool);

    long growth(int pool, int side);

    long position(int owner, int pool, int lo, int hi, int what);

    long held(int token);
}
