/** Promise 2: tell. */
final class Promise02TellTest {
    public static void main(String[] args) {
        ordinary();
        edges();
        wrongInputs();
        full();
        Check.end();
    }

    private static void ordinary() {
        ShopDesks x = new ShopDesks();
        Check.is(1, x.tell(0, 5L, 1, ShopDesks.COUNT, 10L, 3L));
        Check.is(0, x.tell(0, 5L, 1, ShopDesks.COUNT, 10L, 3L));
        Check.is(0, x.tell(0, 5L, 2, ShopDesks.PLACE, 11L, 4L));
        Check.is(1, x.tell(1, 5L, 1, ShopDesks.COUNT, 20L, 3L));
        Check.is(1, x.tell(0, 6L, 1, ShopDesks.COUNT, 30L, 3L));
        x.set(0);
        Check.is(2, x.mark(0));
        Check.is(40, x.at(0, 1, ShopDesks.COUNT, 3L));
        Check.is(0, x.at(0, 2, ShopDesks.PLACE, 4L));
        Check.is(1, x.tell(0, 7L, 1, ShopDesks.COUNT, 1L, 3L));
        Check.is(2, x.mark(0));
    }

    private static void edges() {
        ShopDesks x = new ShopDesks();
        Check.is(1, x.tell(5, Long.MIN_VALUE, 9, ShopDesks.SETTLE, Long.MIN_VALUE, Long.MIN_VALUE));
        Check.is(1, x.tell(5, Long.MAX_VALUE, 9, ShopDesks.SETTLE, Long.MAX_VALUE, Long.MAX_VALUE));
        // Numbers that are alike in their lower half are two.
        Check.is(1, x.tell(5, 7L, 0, ShopDesks.COUNT, 0L, 0L));
        Check.is(1, x.tell(5, 7L + (1L << 32), 0, ShopDesks.COUNT, 0L, 0L));
        Check.is(0, x.tell(5, Long.MIN_VALUE, 0, ShopDesks.COUNT, 0L, 0L));
    }

    private static void wrongInputs() {
        ShopDesks x = new ShopDesks();
        for (int none : new int[] {-1, 6, Integer.MIN_VALUE, Integer.MAX_VALUE}) {
            Check.noIndex(x, () -> x.tell(none, 0L, 0, 0, 0L, 0L));
            Check.noIndex(x, () -> x.tell(none, 0L, 0, 4, 0L, 0L));
        }
        for (int none : new int[] {-1, 10, Integer.MIN_VALUE, Integer.MAX_VALUE}) {
            Check.noIndex(x, () -> x.tell(0, 0L, none, 0, 0L, 0L));
            Check.noIndex(x, () -> x.tell(0, 0L, none, -1, 0L, 0L));
        }
        for (int none : new int[] {-1, 4, Integer.MIN_VALUE, Integer.MAX_VALUE}) {
            Check.noArgument(x, () -> x.tell(0, 0L, 0, none, 0L, 0L));
        }
        Check.is(1, x.tell(0, 0L, 0, 0, 0L, 0L));
        Check.noIndex(x, () -> x.tell(0, 0L, 10, 0, 0L, 0L));
        Check.noArgument(x, () -> x.tell(0, 0L, 0, 4, 0L, 0L));
    }

    private static void full() {
        ShopDesks x = new ShopDesks();
        for (int i = 0; i < 300; i++) {
            Check.is(1, x.tell(i % 6, i, i % 10, i % 4, i, i));
        }
        Check.noState(x, () -> x.tell(0, 300L, 0, 0, 0L, 0L));
        Check.noIndex(x, () -> x.tell(6, 300L, 0, 0, 0L, 0L));
        Check.noIndex(x, () -> x.tell(0, 300L, 10, 0, 0L, 0L));
        Check.noArgument(x, () -> x.tell(0, 300L, 0, 4, 0L, 0L));
        Check.is(0, x.tell(5, 299L, 0, 0, 0L, 0L));
        Check.noState(x, () -> x.tell(4, 299L, 0, 0, 0L, 0L));
    }
}
