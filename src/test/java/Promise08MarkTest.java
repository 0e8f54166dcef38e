/** Promise 8: mark. */
final class Promise08MarkTest {
    public static void main(String[] args) {
        ShopDesks x = new ShopDesks();
        Check.noIndex(x, () -> x.mark(0));
        x.set(0);
        Check.is(0, x.mark(0));
        for (int i = 0; i < 3; i++) {
            x.tell(0, i, 0, i, 0L, 0L);
            x.tell(1, i, 0, i, 0L, 0L);
        }
        Check.is(0, x.mark(0));
        x.set(0);
        x.set(1);
        Check.is(3, x.mark(1));
        x.join(1, 2);
        Check.is(6, x.mark(1));
        Check.is(3, x.mark(2));
        x.batch(2, true);
        x.join(2, 1);
        Check.is(6, x.mark(2));
        for (int none : new int[] {-1, 3, 8, Integer.MIN_VALUE, Integer.MAX_VALUE}) {
            Check.noIndex(x, () -> x.mark(none));
        }
        Check.end();
    }
}
