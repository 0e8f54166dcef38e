/** Promise 8: mark. */
final class Promise08MarkTest {
    public static void main(String[] args) {
        emptyToFull();
        growsByJoinsAlone();
        noSuchSet();
        Check.end();
    }

    private static void emptyToFull() {
        ShopDesks x = new ShopDesks();
        x.set(0);
        x.tell(0, 0L, 0, 0, 0L, 0L);
        x.set(0);
        for (int i = 1; i < 300; i++) {
            x.tell(0, i, 0, i % 4, 0L, 0L);
        }
        x.set(0);
        Check.keeps(x, 0, () -> x.mark(0));
        Check.keeps(x, 1, () -> x.mark(1));
        Check.keeps(x, 300, () -> x.mark(2));
    }

    private static void growsByJoinsAlone() {
        ShopDesks x = new ShopDesks();
        for (int i = 0; i < 3; i++) {
            x.tell(0, i, 0, i, 0L, 0L);
            x.tell(1, i, 0, i, 0L, 0L);
        }
        x.set(0);
        x.set(1);
        Check.is(3, x.mark(0));
        x.tell(0, 3L, 0, 0, 0L, 0L);
        Check.is(3, x.mark(0));
        x.join(0, 1);
        Check.is(6, x.mark(0));
        Check.is(3, x.mark(1));
        x.join(0, 1);
        Check.is(6, x.mark(0));
        // In a batch it is what the set has, not what is seen.
        x.batch(1, true);
        x.join(1, 0);
        Check.is(6, x.mark(1));
        x.batch(1, false);
        Check.is(6, x.mark(1));
    }

    private static void noSuchSet() {
        ShopDesks x = new ShopDesks();
        Check.noIndex(x, () -> x.mark(0));
        x.set(0);
        x.set(0);
        for (int none : new int[] {-1, 2, 8, Integer.MIN_VALUE, Integer.MAX_VALUE}) {
            Check.noIndex(x, () -> x.mark(none));
        }
    }
}
