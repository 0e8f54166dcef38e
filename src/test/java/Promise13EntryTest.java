/** Promise 13: entry. */
final class Promise13EntryTest {
    public static void main(String[] args) {
        ShopDesks x = new ShopDesks();
        Check.is(true, x.closeMonth(3));
        for (int i = 0; i < 60; i++) {
            for (int none : new int[] {-1, 3600, Integer.MIN_VALUE, Integer.MAX_VALUE}) {
                Check.noArgument(x, () -> x.entry(none));
            }
            Check.is(i, x.entry(i % 2 == 0 ? 3599 - i : i));
        }
        Check.noState(x, () -> x.entry(0));
        Check.noState(x, () -> x.entry(3599));
        Check.noArgument(x, () -> x.entry(3600));
        Check.noArgument(x, () -> x.entry(-1));
        Check.is(0, new ShopDesks().entry(0));
        Check.is(0, new ShopDesks().entry(3599));
        reversalsCount();
        Check.end();
    }

    private static void reversalsCount() {
        ShopDesks x = new ShopDesks();
        x.entry(0);
        x.row(0, 0, 0L);
        Check.is(1, x.close(0));
        Check.is(2, x.reverse(1, 0));
        Check.is(2, x.entry(0));
    }
}
