/** Promise 4: join. */
final class Promise04JoinTest {
    public static void main(String[] args) {
        inTheirOrder();
        everyTelling();
        wrongInputs();
        Check.end();
    }

    private static void inTheirOrder() {
        ShopDesks x = new ShopDesks();
        x.tell(0, 4L, 0, ShopDesks.COUNT, 1L, 0L);
        x.tell(1, 3L, 0, ShopDesks.COUNT, 2L, 0L);
        x.tell(1, 2L, 0, ShopDesks.COUNT, 3L, 0L);
        x.tell(2, 1L, 0, ShopDesks.COUNT, 4L, 0L);
        x.set(2);
        x.set(1);
        x.set(0);
        Check.is(0, x.join(0, 0));
        Check.is(2, x.join(0, 1));
        Check.is(3, x.join(2, 0));
        Check.is(0, x.join(2, 0));
        Check.is(0, x.join(2, 1));
        Check.is(2, x.mark(1));
        numbersOf(x, 0, 1, 2, 3);
        numbersOf(x, 2, 4, 1, 2, 3);
        Check.is(2, x.join(1, 2));
        numbersOf(x, 1, 2, 3, 4, 1);
    }

    private static void numbersOf(ShopDesks x, int set, long... numbers) {
        Check.is(numbers.length, x.mark(set));
        for (int k = 0; k < numbers.length; k++) {
            Check.is(numbers[k], x.since(set, 0, k, 1));
        }
    }

    private static void everyTelling() {
        ShopDesks x = new ShopDesks();
        for (int i = 0; i < 300; i++) {
            x.tell(i % 6, -i, 0, ShopDesks.COUNT, 1L, 0L);
        }
        for (int teller = 0; teller < 6; teller++) {
            x.set(teller);
            Check.is(teller == 0 ? 0 : 50, x.join(0, teller));
        }
        Check.is(300, x.mark(0));
        Check.is(0, x.join(0, 0));
        Check.is(250, x.join(5, 0));
        Check.is(0, x.join(0, 5));
        Check.is(300, x.at(5, 0, ShopDesks.COUNT, 0L));
    }

    private static void wrongInputs() {
        ShopDesks x = new ShopDesks();
        x.tell(0, 0L, 0, ShopDesks.COUNT, 1L, 0L);
        x.set(1);
        x.set(0);
        for (int none : new int[] {-1, 2, 8, Integer.MIN_VALUE, Integer.MAX_VALUE}) {
            Check.noIndex(x, () -> x.join(none, 0));
            Check.noIndex(x, () -> x.join(0, none));
            Check.noIndex(x, () -> x.join(none, none));
        }
        Check.is(1, x.join(0, 1));
    }
}
