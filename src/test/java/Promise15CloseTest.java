/** Promise 15: close. */
final class Promise15CloseTest {
    public static void main(String[] args) {
        refusedUntilZero();
        numbersInTheOrderOfClosing();
        sixRows();
        months();
        wrongInputs();
        Check.end();
    }

    private static void refusedUntilZero() {
        ShopDesks x = new ShopDesks();
        x.entry(10);
        Check.is(0, x.close(0));
        x.row(0, 1, 100L);
        Check.is(0, x.close(0));
        x.row(0, 2, -60L);
        Check.is(0, x.close(0));
        Check.is(3, x.row(0, 3, -40L));
        Check.is(0, x.balance(1, 3599));
        Check.is(1, x.close(0));
        Check.is(100, x.balance(1, 3599));
        Check.noState(x, () -> x.close(0));
    }

    private static void numbersInTheOrderOfClosing() {
        ShopDesks x = new ShopDesks();
        for (int entry = 0; entry < 60; entry++) {
            x.entry(3599 - entry);
            x.row(entry, 0, 0L);
        }
        for (int number = 1; number <= 60; number++) {
            Check.is(number, x.close(60 - number));
        }
    }

    private static void sixRows() {
        ShopDesks x = new ShopDesks();
        x.entry(0);
        for (int i = 0; i < 6; i++) {
            x.row(0, 0, i < 3 ? 1000000000L : -1000000000L);
        }
        Check.is(1, x.close(0));
        // Together they are 2 to the 32nd, which would be 0 as an int.
        x.entry(0);
        for (int i = 0; i < 4; i++) {
            x.row(1, 0, 1000000000L);
        }
        x.row(1, 0, 294967296L);
        Check.is(0, x.close(1));
    }

    private static void months() {
        ShopDesks x = new ShopDesks();
        int[] days = {0, 59, 60, 3599};
        for (int entry = 0; entry < 4; entry++) {
            x.entry(days[entry]);
            x.row(entry, 0, 0L);
        }
        x.closeMonth(1);
        Check.is(0, x.close(0));
        Check.is(0, x.close(1));
        Check.is(1, x.close(2));
        Check.is(2, x.row(1, 0, 5L));
        x.closeMonth(119);
        Check.is(0, x.close(3));
        Check.noState(x, () -> x.close(2));
    }

    private static void wrongInputs() {
        ShopDesks x = new ShopDesks();
        Check.noIndex(x, () -> x.close(0));
        x.entry(5);
        for (int none : new int[] {-1, 1, 60, Integer.MIN_VALUE, Integer.MAX_VALUE}) {
            Check.noIndex(x, () -> x.close(none));
        }
        x.row(0, 1, 0L);
        Check.is(1, x.close(0));
        Check.is(2, x.reverse(1, 5));
        Check.noState(x, () -> x.close(0));
        Check.noState(x, () -> x.close(1));
        Check.noIndex(x, () -> x.close(2));
    }
}
