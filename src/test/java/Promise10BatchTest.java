/** Promise 10: batch. */
final class Promise10BatchTest {
    public static void main(String[] args) {
        ShopDesks x = new ShopDesks();
        x.set(0);
        x.set(0);
        Check.is(false, x.batch(0, false));
        Check.is(true, x.batch(0, true));
        Check.is(false, x.batch(0, true));
        Check.is(false, x.batch(1, false));
        Check.is(true, x.batch(1, true));
        Check.is(true, x.batch(0, false));
        Check.is(false, x.batch(0, false));
        Check.is(false, x.batch(1, true));
        Check.is(true, x.batch(0, true));
        for (int none : new int[] {-1, 2, 8, Integer.MIN_VALUE, Integer.MAX_VALUE}) {
            Check.noIndex(x, () -> x.batch(none, true));
            Check.noIndex(x, () -> x.batch(none, false));
        }
        Check.is(2, x.set(0));
        Check.is(false, x.batch(2, false));
        Check.end();
    }
}
