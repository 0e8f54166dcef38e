/** Promise 5: equal. */
final class Promise05EqualTest {
    public static void main(String[] args) {
        ShopDesks x = new ShopDesks();
        x.tell(0, 1L, 0, ShopDesks.COUNT, 1L, 0L);
        x.tell(1, 1L, 0, ShopDesks.COUNT, 1L, 0L);
        x.set(0);
        x.set(1);
        x.set(0);
        x.set(2);
        x.set(3);
        both(x, true, 0, 0);
        both(x, false, 0, 1);
        both(x, true, 0, 2);
        both(x, false, 0, 3);
        both(x, true, 3, 4);
        x.join(0, 1);
        both(x, false, 0, 1);
        both(x, false, 0, 2);
        x.join(1, 0);
        // They came in another order, and are the same.
        Check.is(0, x.since(0, 0, 0, 0));
        Check.is(1, x.since(1, 0, 0, 0));
        both(x, true, 0, 1);
        wrongInputs(x);
        Check.end();
    }

    private static void both(ShopDesks x, boolean want, int one, int other) {
        Check.is(want, x.equal(one, other));
        Check.is(want, x.equal(other, one));
    }

    private static void wrongInputs(ShopDesks x) {
        for (int none : new int[] {-1, 5, 8, Integer.MIN_VALUE, Integer.MAX_VALUE}) {
            Check.noIndex(x, () -> x.equal(none, 0));
            Check.noIndex(x, () -> x.equal(0, none));
            Check.noIndex(x, () -> x.equal(none, none));
        }
    }
}
