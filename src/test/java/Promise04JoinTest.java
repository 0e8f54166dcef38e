/** Promise 4: join. */
final class Promise04JoinTest {
    public static void main(String[] args) {
        inTheirOrder();
        nothingToGet();
        theOtherStays();
        whatWasToldSinceIsNotGot();
        inAnOpenBatch();
        everyTelling();
        noSuchSet();
        Check.end();
    }

    /** "in the order in which they came there". */
    private static void inTheirOrder() {
        ShopDesks x = new ShopDesks();
        x.tell(0, 4L, 0, ShopDesks.COUNT, 1L, 0L);
        x.tell(1, 3L, 0, ShopDesks.COUNT, 2L, 0L);
        x.tell(1, 2L, 0, ShopDesks.COUNT, 3L, 0L);
        x.tell(2, 1L, 0, ShopDesks.COUNT, 4L, 0L);
        x.set(2);
        x.set(1);
        x.set(0);
        Check.is(2, x.join(0, 1));
        Check.is(3, x.join(2, 0));
        Check.is(2, x.mark(1));
        numbersOf(x, 0, 1, 2, 3);
        numbersOf(x, 2, 4, 1, 2, 3);
        Check.is(2, x.join(1, 2));
        numbersOf(x, 1, 2, 3, 4, 1);
    }

    private static void numbersOf(ShopDesks x, int set, long... numbers) {
        Check.is(numbers.length, x.mark(set));
        for (int k = 0; k < numbers.length; k++) {
            Check.is(numbers[k], x.since(set, 0, k, 1));
        }
    }

    /** "all that another one has and it has not": itself, an empty set, a set again, a part of it. */
    private static void nothingToGet() {
        ShopDesks x = new ShopDesks();
        x.tell(0, 1L, 0, ShopDesks.COUNT, 1L, 0L);
        x.set(0);
        x.set(1);
        x.tell(0, 2L, 0, ShopDesks.COUNT, 1L, 0L);
        x.set(0);
        x.set(0);
        Check.keeps(x, 0, () -> x.join(0, 0));
        Check.keeps(x, 0, () -> x.join(0, 1));
        Check.keeps(x, 0, () -> x.join(1, 1));
        Check.keeps(x, 0, () -> x.join(2, 0));
        Check.keeps(x, 0, () -> x.join(2, 3));
        Check.is(1, x.join(0, 2));
        Check.keeps(x, 0, () -> x.join(0, 2));
        Check.is(2, x.join(1, 0));
        Check.keeps(x, 0, () -> x.join(1, 0));
    }

    private static void theOtherStays() {
        ShopDesks x = new ShopDesks();
        x.tell(0, 2L, 0, ShopDesks.COUNT, 10L, 0L);
        x.tell(1, 1L, 0, ShopDesks.COUNT, 20L, 0L);
        x.set(0);
        x.set(1);
        x.set(2);
        x.join(0, 1);
        x.join(2, 0);
        numbersOf(x, 0, 2, 1);
        numbersOf(x, 1, 1);
        Check.is(20, x.at(1, 0, ShopDesks.COUNT, 0L));
        // A set that got all is apart from the one that it has them from.
        x.tell(3, 9L, 0, ShopDesks.COUNT, 40L, 0L);
        x.set(3);
        x.join(2, 3);
        numbersOf(x, 0, 2, 1);
        numbersOf(x, 2, 2, 1, 9);
    }

    private static void whatWasToldSinceIsNotGot() {
        ShopDesks x = new ShopDesks();
        x.tell(0, 1L, 0, ShopDesks.COUNT, 1L, 0L);
        x.set(0);
        x.tell(0, 2L, 0, ShopDesks.COUNT, 1L, 0L);
        x.set(1);
        Check.is(1, x.join(1, 0));
        numbersOf(x, 1, 1);
    }

    private static void inAnOpenBatch() {
        ShopDesks x = new ShopDesks();
        x.tell(0, 1L, 0, ShopDesks.COUNT, 1L, 0L);
        x.tell(1, 2L, 0, ShopDesks.COUNT, 1L, 0L);
        x.set(0);
        x.set(1);
        x.set(2);
        x.batch(0, true);
        x.batch(2, true);
        Check.is(1, x.join(0, 1));
        Check.is(2, x.join(2, 0));
        numbersOf(x, 2, 1, 2);
    }

    private static void everyTelling() {
        ShopDesks x = new ShopDesks();
        for (int i = 0; i < 300; i++) {
            x.tell(i % 6, -i, 0, ShopDesks.COUNT, 1L, 0L);
        }
        for (int teller = 0; teller < 6; teller++) {
            x.set(teller);
            Check.is(teller == 0 ? 0 : 50, x.join(0, teller));
        }
        Check.is(300, x.mark(0));
        Check.keeps(x, 0, () -> x.join(0, 0));
        Check.is(250, x.join(5, 0));
        Check.keeps(x, 0, () -> x.join(0, 5));
        Check.is(300, x.at(5, 0, ShopDesks.COUNT, 0L));
    }

    private static void noSuchSet() {
        ShopDesks x = new ShopDesks();
        x.tell(0, 0L, 0, ShopDesks.COUNT, 1L, 0L);
        Check.noIndex(x, () -> x.join(0, 0));
        x.set(1);
        x.set(0);
        for (int none : new int[] {-1, 2, 8, Integer.MIN_VALUE, Integer.MAX_VALUE}) {
            Check.noIndex(x, () -> x.join(none, 0));
            Check.noIndex(x, () -> x.join(0, none));
            Check.noIndex(x, () -> x.join(none, none));
        }
        Check.is(1, x.join(0, 1));
    }
}
