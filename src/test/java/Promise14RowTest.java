/** Promise 14: row. */
final class Promise14RowTest {
    public static void main(String[] args) {
        ordinary();
        wrongInputs();
        full();
        closed();
        Check.end();
    }

    private static void ordinary() {
        ShopDesks x = new ShopDesks();
        x.entry(5);
        x.entry(5);
        Check.is(1, x.row(0, 0, 1000000000L));
        Check.is(2, x.row(0, 9, -1000000000L));
        Check.is(1, x.row(1, 9, 7L));
        Check.is(3, x.row(0, 9, 0L));
        Check.is(1, x.close(0));
        Check.is(1000000000L, x.balance(0, 5));
        Check.is(-1000000000L, x.balance(9, 5));
    }

    private static void wrongInputs() {
        ShopDesks x = new ShopDesks();
        x.entry(5);
        for (int none : new int[] {-1, 1, 60, Integer.MIN_VALUE, Integer.MAX_VALUE}) {
            Check.noIndex(x, () -> x.row(none, 0, 0L));
            Check.noIndex(x, () -> x.row(none, 0, 1000000001L));
        }
        for (int none : new int[] {-1, 10, Integer.MIN_VALUE, Integer.MAX_VALUE}) {
            Check.noIndex(x, () -> x.row(0, none, 0L));
            Check.noIndex(x, () -> x.row(0, none, 1000000001L));
        }
        for (long cents : new long[] {1000000001L, -1000000001L, Long.MIN_VALUE, Long.MAX_VALUE, 1L << 32}) {
            Check.noArgument(x, () -> x.row(0, 0, cents));
        }
        Check.is(1, x.row(0, 0, 0L));
    }

    private static void full() {
        ShopDesks x = new ShopDesks();
        x.entry(5);
        for (int i = 1; i <= 6; i++) {
            Check.is(i, x.row(0, i, 1L));
        }
        Check.noState(x, () -> x.row(0, 0, 1L));
        Check.noIndex(x, () -> x.row(1, 0, 1L));
        Check.noIndex(x, () -> x.row(0, 10, 1L));
        Check.noArgument(x, () -> x.row(0, 0, 1000000001L));
        Check.is(0, x.close(0));
    }

    private static void closed() {
        ShopDesks x = new ShopDesks();
        x.entry(5);
        x.row(0, 1, 0L);
        x.close(0);
        x.reverse(1, 5);
        Check.noState(x, () -> x.row(0, 0, 1L));
        Check.noState(x, () -> x.row(1, 0, 1L));
        Check.noIndex(x, () -> x.row(0, -1, 1L));
        Check.noIndex(x, () -> x.row(2, 0, 1L));
        Check.noArgument(x, () -> x.row(0, 0, -1000000001L));
    }
}
