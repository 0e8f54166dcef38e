/** Promise 3: set. */
final class Promise03SetTest {
    public static void main(String[] args) {
        byNumbers();
        soFar();
        thereAreEight();
        noSuchTeller();
        Check.end();
    }

    private static void byNumbers() {
        ShopDesks x = new ShopDesks();
        long[] numbers = {5, Long.MAX_VALUE, -3, 1L << 40, 0, Long.MIN_VALUE, 2};
        for (long number : numbers) {
            x.tell(2, number, 0, ShopDesks.COUNT, 1L, -number);
            x.tell(3, number, 0, ShopDesks.COUNT, 2L, 0L);
        }
        Check.is(0, x.set(2));
        java.util.Arrays.sort(numbers);
        Check.is(numbers.length, x.mark(0));
        for (int k = 0; k < numbers.length; k++) {
            Check.is(2, x.since(0, 0, k, 0));
            Check.is(numbers[k], x.since(0, 0, k, 1));
            Check.is(1, x.since(0, 0, k, 2));
        }
    }

    private static void soFar() {
        ShopDesks x = new ShopDesks();
        Check.is(0, x.set(1));
        x.tell(1, 9L, 0, ShopDesks.COUNT, 1L, 0L);
        Check.is(1, x.set(1));
        x.tell(1, 8L, 0, ShopDesks.COUNT, 1L, 0L);
        Check.is(2, x.set(1));
        Check.is(0, x.mark(0));
        Check.is(1, x.mark(1));
        Check.is(2, x.mark(2));
    }

    /** "IllegalStateException: there are 8". */
    private static void thereAreEight() {
        ShopDesks x = new ShopDesks();
        for (int set = 0; set < 7; set++) {
            x.set(5);
        }
        Check.is(7, x.set(5));
        for (int teller = 0; teller < 6; teller++) {
            int of = teller;
            Check.noState(x, () -> x.set(of));
        }
        for (int none : Check.outside(0, 5)) {
            Check.noIndex(x, () -> x.set(none));
        }
    }

    private static void noSuchTeller() {
        ShopDesks x = new ShopDesks();
        for (int set = 0; set < 8; set++) {
            for (int none : Check.outside(0, 5)) {
                Check.noIndex(x, () -> x.set(none));
            }
            Check.is(set, x.set(set < 4 ? 0 : 5));
        }
    }
}
