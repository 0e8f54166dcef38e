/** What it is: "An object is used for at most 512 calls after it has been made": the last of them is as good as the first. */
final class TermsCallsTest {
    public static void main(String[] args) {
        fullOfEverything();
        refusedCallsOnly();
        objectsAreApart();
        Check.end();
    }

    private static void fullOfEverything() {
        ShopDesks x = new ShopDesks();
        int calls = 0;
        for (int i = 0; i < 300; i++, calls++) {
            Check.is(1, x.tell(i % 6, i, i % 10, ShopDesks.COUNT, 1L, 0L));
        }
        for (int i = 0; i < 8; i++, calls++) {
            Check.is(i, x.set(i % 6));
        }
        for (int i = 1; i < 6; i++, calls++) {
            Check.is(50, x.join(0, i));
        }
        for (int i = 0; i < 60; i++, calls++) {
            Check.is(i, x.entry(60 * i));
        }
        for (int i = 0; i < 60; i++, calls++) {
            Check.is(1, x.row(i, 0, 0L));
        }
        for (int i = 0; i < 60; i++, calls++) {
            Check.is(i + 1, x.close(i));
        }
        for (int i = 0; i < 18; i++, calls++) {
            Check.is(30, x.at(0, i % 10, ShopDesks.COUNT, 0L));
        }
        Check.is(511, calls);
        Check.is(300, x.mark(0));
    }

    private static void refusedCallsOnly() {
        ShopDesks x = new ShopDesks();
        for (int i = 0; i < 511; i++) {
            Check.noIndex(x, () -> x.reverse(1, 0));
        }
        Check.is(1, x.tell(0, 0L, 0, 0, 0L, 0L));
    }

    /** Nothing that one object was told is in another. */
    private static void objectsAreApart() {
        ShopDesks x = new ShopDesks();
        ShopDesks y = new ShopDesks();
        String atFirst = Check.stateOf(y);
        x.tell(0, 1L, 0, ShopDesks.COUNT, 5L, 0L);
        x.set(0);
        x.batch(0, true);
        x.right(0, 0, true);
        x.entry(0);
        x.row(0, 0, 0L);
        x.close(0);
        x.reverse(1, 0);
        x.closeMonth(119);
        Check.that(atFirst.equals(Check.stateOf(y)), "a call on one object changed another");
        Check.that(atFirst.equals(Check.stateOf(new ShopDesks())), "a new object is not as the one before");
    }
}
