/** Promise 9: since. */
final class Promise09SinceTest {
    public static void main(String[] args) {
        ShopDesks x = new ShopDesks();
        x.tell(5, -2L, 1, ShopDesks.PLACE, Long.MIN_VALUE, 1L);
        x.tell(5, Long.MAX_VALUE, 2, ShopDesks.MARK, 20L, 2L);
        x.tell(3, 7L, 3, ShopDesks.COUNT, Long.MAX_VALUE, 3L);
        x.set(5);
        x.set(3);
        x.set(0);
        x.join(0, 1);
        telling(x, 0, 0, 5, -2L, Long.MIN_VALUE);
        telling(x, 0, 1, 5, Long.MAX_VALUE, 20L);
        telling(x, 0, 2, 3, 7L, Long.MAX_VALUE);
        telling(x, 1, 0, 5, Long.MAX_VALUE, 20L);
        telling(x, 1, 1, 3, 7L, Long.MAX_VALUE);
        telling(x, 2, 0, 3, 7L, Long.MAX_VALUE);
        notSoMany(x);
        wrongInputs(x);
        Check.end();
    }

    private static void telling(ShopDesks x, int mark, int k, long teller, long number, long value) {
        Check.is(teller, x.since(0, mark, k, 0));
        Check.is(number, x.since(0, mark, k, 1));
        Check.is(value, x.since(0, mark, k, 2));
    }

    private static void notSoMany(ShopDesks x) {
        Check.noIndex(x, () -> x.since(2, 0, 0, 0));
        Check.noIndex(x, () -> x.since(0, 0, 3, 0));
        Check.noIndex(x, () -> x.since(0, 1, 2, 0));
        Check.noIndex(x, () -> x.since(0, 3, 0, 0));
        Check.noIndex(x, () -> x.since(0, 300, 0, 0));
        Check.noIndex(x, () -> x.since(0, Integer.MAX_VALUE, 1, 0));
        Check.noIndex(x, () -> x.since(0, 1, Integer.MAX_VALUE, 0));
        Check.noIndex(x, () -> x.since(0, Integer.MAX_VALUE, Integer.MAX_VALUE, 0));
        Check.noIndex(x, () -> x.since(0, 0, 3, 3));
        Check.noIndex(x, () -> x.since(2, 0, 0, -1));
    }

    private static void wrongInputs(ShopDesks x) {
        for (int none : new int[] {-1, 3, 8, Integer.MIN_VALUE, Integer.MAX_VALUE}) {
            Check.noIndex(x, () -> x.since(none, 0, 0, 0));
            Check.noIndex(x, () -> x.since(none, -1, -1, 3));
        }
        for (int below : new int[] {-1, Integer.MIN_VALUE}) {
            Check.noArgument(x, () -> x.since(0, below, 0, 0));
            Check.noArgument(x, () -> x.since(0, 0, below, 0));
            Check.noArgument(x, () -> x.since(0, below, below, 0));
            Check.noArgument(x, () -> x.since(0, below, 1, 0));
            Check.noArgument(x, () -> x.since(0, 1, below, 0));
            Check.noArgument(x, () -> x.since(2, below, 0, 0));
        }
        for (int what : new int[] {-1, 3, Integer.MIN_VALUE, Integer.MAX_VALUE}) {
            Check.noArgument(x, () -> x.since(0, 0, 0, what));
        }
        Check.noIndex(x, () -> x.since(0, -1, 4, 0));
        Check.noIndex(x, () -> x.since(0, 4, -1, 0));
    }
}
