/** Promise 16: balance. */
final class Promise16BalanceTest {
    public static void main(String[] args) {
        ShopDesks x = new ShopDesks();
        entry(x, 0, 10, 100L);
        entry(x, 1, 5, 20L);
        entry(x, 2, 3599, 3L);
        entry(x, 3, 0, 1000L);
        x.close(2);
        x.close(0);
        Check.is(0, x.balance(1, 9));
        x.close(1);
        Check.is(0, x.balance(1, 4));
        Check.is(20, x.balance(1, 5));
        Check.is(20, x.balance(1, 9));
        Check.is(120, x.balance(1, 10));
        Check.is(120, x.balance(1, 3598));
        Check.is(123, x.balance(1, 3599));
        Check.is(123, x.balance(1, Integer.MAX_VALUE));
        Check.is(-123, x.balance(9, 3600));
        Check.is(0, x.balance(0, 3599));
        Check.is(0, x.balance(1, -1));
        Check.is(0, x.balance(1, Integer.MIN_VALUE));
        x.closeMonth(0);
        Check.is(120, x.balance(1, 29));
        for (int none : new int[] {-1, 10, Integer.MIN_VALUE, Integer.MAX_VALUE}) {
            Check.noIndex(x, () -> x.balance(none, 0));
            Check.noIndex(x, () -> x.balance(none, -1));
        }
        large();
        Check.end();
    }

    private static void entry(ShopDesks x, int entry, int day, long cents) {
        x.entry(day);
        x.row(entry, 1, cents - 1);
        x.row(entry, 9, -cents);
        x.row(entry, 1, 1L);
    }

    private static void large() {
        ShopDesks x = new ShopDesks();
        for (int entry = 0; entry < 60; entry++) {
            x.entry(0);
            for (int i = 0; i < 6; i++) {
                x.row(entry, i % 2, i % 2 == 0 ? 1000000000L : -1000000000L);
            }
            x.close(entry);
        }
        Check.is(180000000000L, x.balance(0, 0));
        Check.is(-180000000000L, x.balance(1, 0));
    }
}
