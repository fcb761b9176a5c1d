/** Promises 6 (collect), 14 (position). */
public final class CollectTest {
    public static void main(String[] args) {
        promise6PaysWithoutSettling();
        promise6PaysBothTokens();
        promise6NothingOwedIsPaidAs0();
        promise6OwnerPoolOrTickOutOfRange();
        promise6NoSuchPosition();
        promise6EndsAnEmptyPosition();
        promise6OfTwoExceptionsTheFirst();
        promise14TellsAmountAndOwed();
        promise14NoSuchWhat();
        promise14NoSuchPosition();
        Check.finish("CollectTest");
    }

    /** Owner 0 has lent 1000 between -5 and 5 in pool 0, and burnt half of it. */
    private static Counted owed() {
        return owed(0, 0, -5, 5);
    }

    private static Counted owed(int owner, int pool, int lo, int hi) {
        Counted x = Counted.rich(0, 0, 25000000);
        x.mint(owner, pool, lo, hi, 1000);
        x.burn(owner, pool, lo, hi, 500);
        return x;
    }

    /** "All that is owed to a position (not settled before)" */
    private static void promise6PaysWithoutSettling() {
        Counted x = Counted.rich(100, 0, 25000000);
        x.mint(0, 0, -10, 10, 1000000);
        x.swap(2, 0, true, 1000, -40);
        Check.same("collect before it is settled", x.collect(0, 0, -10, 10), 0);
        x.burn(0, 0, -10, 10, 0);
        x.swap(2, 0, true, 1000, -40);
        long near = x.balance(0, 0);
        long far = x.balance(0, 1);
        long held = x.held(0);
        Check.same("collect of what was settled", x.collect(0, 0, -10, 10), 99);
        Check.same("near is paid", x.balance(0, 0) - near, 99);
        Check.same("far is not", x.balance(0, 1) - far, 0);
        Check.same("held falls", held - x.held(0), 99);
        Check.same("collect again", x.collect(0, 0, -10, 10), 0);
        x.burn(0, 0, -10, 10, 0);
        Check.same("the second swap's fee is owed later", x.position(0, 0, -10, 10, 1), 99);
    }

    private static void promise6PaysBothTokens() {
        Counted x = Counted.rich(0, 0, 25000000);
        x.mint(3, 1, -10, 10, 1000000);
        x.burn(3, 1, -10, 10, 1000000);
        Check.same("collect of both tokens", x.collect(3, 1, -10, 10), 529752);
        Check.same("near is paid back", x.balance(3, 1), 25000000 - 1);
        Check.same("far is paid back", x.balance(3, 2), 25000000 - 1);
        Check.same("nothing of the third", x.balance(3, 0), 25000000);
        Check.same("near held", x.held(1), 1);
        Check.same("far held", x.held(2), 1);
        Check.same("collect is no swap", x.paid(), 0);
    }

    private static void promise6NothingOwedIsPaidAs0() {
        Edge.allowed("collect of 71 near and 71 far", CollectTest::owed, x -> x.collect(0, 0, -5, 5), 142);
        Edge.Maker collected = () -> {
            Counted x = owed();
            x.collect(0, 0, -5, 5);
            return x;
        };
        Edge.allowed("collect when all is collected", collected, x -> x.collect(0, 0, -5, 5), 0);
        Check.same("its amount stays", collected.make().position(0, 0, -5, 5, 0), 500);
    }

    private static void promise6OwnerPoolOrTickOutOfRange() {
        Edge.allowed("collect by owner 3", () -> owed(3, 0, -5, 5), x -> x.collect(3, 0, -5, 5), 142);
        Edge.allowed("collect in pool 1", () -> owed(0, 1, -5, 5), x -> x.collect(0, 1, -5, 5), 142);
        Edge.allowed("collect from -40 to 40", () -> owed(0, 0, -40, 40), x -> x.collect(0, 0, -40, 40), 706);
        for (int owner : Edge.OUT_OF_OWNERS) {
            Edge.refused("collect by owner " + owner, Edge.INDEX, CollectTest::owed,
                    x -> x.collect(owner, 0, -5, 5));
        }
        for (int pool : Edge.OUT_OF_POOLS) {
            Edge.refused("collect in pool " + pool, Edge.INDEX, CollectTest::owed,
                    x -> x.collect(0, pool, -5, 5));
        }
        for (int tick : Edge.OUT_OF_TICKS) {
            Edge.refused("collect from " + tick, Edge.INDEX, CollectTest::owed,
                    x -> x.collect(0, 0, tick, 5));
            Edge.refused("collect to " + tick, Edge.INDEX, CollectTest::owed,
                    x -> x.collect(0, 0, -5, tick));
        }
    }

    /** "NoSuchElementException when there is no such position" */
    private static void promise6NoSuchPosition() {
        Edge.refused("collect with another hi", Edge.NONE, CollectTest::owed, x -> x.collect(0, 0, -5, 6));
        Edge.refused("collect with another lo", Edge.NONE, CollectTest::owed, x -> x.collect(0, 0, -4, 5));
        Edge.refused("collect of another owner's", Edge.NONE, CollectTest::owed, x -> x.collect(1, 0, -5, 5));
        Edge.refused("collect of another pool's", Edge.NONE, CollectTest::owed, x -> x.collect(0, 1, -5, 5));
        Edge.refused("collect with lo = hi", Edge.NONE, CollectTest::owed, x -> x.collect(0, 0, 5, 5));
        Edge.refused("collect with lo above hi", Edge.NONE, CollectTest::owed, x -> x.collect(0, 0, 5, -5));
        Edge.refused("collect where nothing was ever lent", Edge.NONE, () -> Counted.rich(0, 0, 9),
                x -> x.collect(0, 0, 0, 0));
    }

    private static Counted burnt(int l) {
        Counted x = Counted.rich(0, 0, 25000000);
        x.mint(0, 0, 0, 1, l);
        x.burn(0, 0, 0, 1, l);
        return x;
    }

    /** "one that has no amount any more and nothing owed is none" */
    private static void promise6EndsAnEmptyPosition() {
        Edge.allowed("collect of the 1 that 33 is worth", () -> burnt(33), x -> x.collect(0, 0, 0, 1), 1);
        Edge.refused("collect of the 0 that 32 is worth", Edge.NONE, () -> burnt(32),
                x -> x.collect(0, 0, 0, 1));
        Edge.Maker collected = () -> {
            Counted x = burnt(33);
            x.collect(0, 0, 0, 1);
            return x;
        };
        Edge.refused("collect a second time", Edge.NONE, collected, x -> x.collect(0, 0, 0, 1));
        Edge.Maker again = () -> {
            Counted x = collected.make();
            x.mint(0, 0, 0, 1, 1);
            return x;
        };
        Edge.allowed("collect when it is minted again", again, x -> x.collect(0, 0, 0, 1), 0);
    }

    private static void promise6OfTwoExceptionsTheFirst() {
        Edge.refused("owner before none", Edge.INDEX, CollectTest::owed, x -> x.collect(4, 0, -5, 6));
        Edge.refused("pool before none", Edge.INDEX, CollectTest::owed, x -> x.collect(0, -1, -5, 6));
        Edge.refused("lo before none", Edge.INDEX, CollectTest::owed, x -> x.collect(0, 0, 41, 6));
        Edge.refused("hi before none", Edge.INDEX, CollectTest::owed, x -> x.collect(0, 0, 5, -41));
    }

    private static Counted oneOfOwner1() {
        Counted x = Counted.rich(0, 0, 25000000);
        x.mint(1, 1, -10, 3, 1000000);
        x.burn(1, 1, -10, 3, 400000);
        return x;
    }

    private static void promise14TellsAmountAndOwed() {
        Edge.Maker one = CollectTest::oneOfOwner1;
        Edge.allowed("amount", one, x -> x.position(1, 1, -10, 3, 0), 600000);
        Edge.allowed("near owed", one, x -> x.position(1, 1, -10, 3, 1), 35272);
        Edge.allowed("far owed", one, x -> x.position(1, 1, -10, 3, 2), 105950);
        Counted x = oneOfOwner1();
        x.collect(1, 1, -10, 3);
        Check.same("near collected", x.position(1, 1, -10, 3, 1), 0);
        Check.same("far collected", x.position(1, 1, -10, 3, 2), 0);
        Check.same("amount left", x.position(1, 1, -10, 3, 0), 600000);
        Counted y = oneOfOwner1();
        y.burn(1, 1, -10, 3, 600000);
        Check.same("no amount, and near owed", y.position(1, 1, -10, 3, 1), 35272 + 52909);
        Check.same("no amount left", y.position(1, 1, -10, 3, 0), 0);
        y.collect(1, 1, -10, 3);
        Check.same("an ended one has no amount", y.position(1, 1, -10, 3, 0), 0);
        Check.same("an ended one is owed no near", y.position(1, 1, -10, 3, 1), 0);
        Check.same("an ended one is owed no far", y.position(1, 1, -10, 3, 2), 0);
    }

    /** "0 when there is no such ... what" */
    private static void promise14NoSuchWhat() {
        for (int what : new int[] {-1, 3, 4, Integer.MIN_VALUE, Integer.MAX_VALUE}) {
            Edge.allowed("what " + what, CollectTest::oneOfOwner1, x -> x.position(1, 1, -10, 3, what), 0);
        }
    }

    /** "0 when there is no such position", for places out of every range, too: it never throws. */
    private static void promise14NoSuchPosition() {
        Counted x = oneOfOwner1();
        for (int wrong : new int[] {-41, -1, 0, 2, 4, 40, 41, Integer.MIN_VALUE, Integer.MAX_VALUE}) {
            for (int what = 0; what < 3; what++) {
                Check.same("another owner", x.position(wrong, 1, -10, 3, what), 0);
                Check.same("another pool", x.position(1, wrong, -10, 3, what), 0);
                Check.same("another lo", x.position(1, 1, wrong, 3, what), 0);
                Check.same("another hi", x.position(1, 1, -10, wrong, what), 0);
            }
        }
        for (int what = 0; what < 3; what++) {
            Check.same("the owner beside it", x.position(2, 1, -10, 3, what), 0);
            Check.same("the lo beside it", x.position(1, 1, -9, 3, what), 0);
            Check.same("the hi beside it", x.position(1, 1, -10, 4, what), 0);
            Check.same("lo and hi changed", x.position(1, 1, 3, -10, what), 0);
            Check.same("lo and hi the same", x.position(1, 1, 3, 3, what), 0);
            Check.same("an unused place", x.position(0, 0, 0, 0, what), 0);
        }
    }
}
