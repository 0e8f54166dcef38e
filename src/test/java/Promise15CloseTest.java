/** Promise 15: close. */
final class Promise15CloseTest {
    private static final long MOST = 1000000000L;

    public static void main(String[] args) {
        refusedWithoutARow();
        refusedUntilZero();
        numbersInTheOrderOfClosing();
        sixRows();
        refusedByItsMonth();
        refusedByBoth();
        noSuchEntry();
        itIsClosed();
        Check.end();
    }

    private static void refusedWithoutARow() {
        ShopDesks x = new ShopDesks();
        x.entry(10);
        Check.keeps(x, 0, () -> x.close(0));
        Check.is(1, x.row(0, 0, 0L));
        Check.is(1, x.close(0));
    }

    private static void refusedUntilZero() {
        ShopDesks x = new ShopDesks();
        x.entry(10);
        x.row(0, 1, 100L);
        Check.keeps(x, 0, () -> x.close(0));
        x.row(0, 2, -60L);
        Check.keeps(x, 0, () -> x.close(0));
        x.row(0, 3, -39L);
        Check.keeps(x, 0, () -> x.close(0));
        x.row(0, 3, -2L);
        Check.keeps(x, 0, () -> x.close(0));
        Check.is(5, x.row(0, 3, 1L));
        Check.is(0, x.balance(1, 3599));
        Check.is(1, x.close(0));
        Check.is(100, x.balance(1, 3599));
        Check.is(-40, x.balance(3, 3599));
    }

    private static void numbersInTheOrderOfClosing() {
        ShopDesks x = new ShopDesks();
        for (int entry = 0; entry < 60; entry++) {
            x.entry(3599 - entry);
            x.row(entry, 0, 0L);
        }
        for (int number = 1; number <= 60; number++) {
            Check.is(number, x.close(60 - number));
        }
    }

    private static void sixRows() {
        ShopDesks x = new ShopDesks();
        x.entry(0);
        for (int i = 0; i < 6; i++) {
            x.row(0, 0, i < 3 ? MOST : -MOST);
        }
        Check.is(1, x.close(0));
        // Together they are 2 to the 32nd, which would be 0 as an int.
        x.entry(0);
        for (int i = 0; i < 4; i++) {
            x.row(1, 0, MOST);
        }
        x.row(1, 0, 294967296L);
        Check.keeps(x, 0, () -> x.close(1));
    }

    /** "0 if it is refused (also by its MONTH)". */
    private static void refusedByItsMonth() {
        ShopDesks x = new ShopDesks();
        int[] days = {0, 59, 60, 3599};
        for (int entry = 0; entry < 4; entry++) {
            x.entry(days[entry]);
            x.row(entry, 0, 0L);
        }
        x.closeMonth(1);
        Check.keeps(x, 0, () -> x.close(0));
        Check.keeps(x, 0, () -> x.close(1));
        Check.is(1, x.close(2));
        x.closeMonth(118);
        Check.is(2, x.close(3));
        Check.is(4, x.entry(3599));
        x.row(4, 0, 0L);
        x.closeMonth(119);
        Check.keeps(x, 0, () -> x.close(4));
        // Refused by its month it is as open as before.
        Check.is(2, x.row(1, 0, 5L));
        Check.noState(x, () -> x.close(2));
    }

    private static void refusedByBoth() {
        ShopDesks x = new ShopDesks();
        x.entry(0);
        x.closeMonth(0);
        Check.keeps(x, 0, () -> x.close(0));
        x.row(0, 0, 1L);
        Check.keeps(x, 0, () -> x.close(0));
        x.row(0, 0, -1L);
        Check.keeps(x, 0, () -> x.close(0));
    }

    private static void noSuchEntry() {
        ShopDesks x = new ShopDesks();
        Check.noIndex(x, () -> x.close(0));
        x.entry(5);
        for (int none : new int[] {-1, 1, 60, Integer.MIN_VALUE, Integer.MAX_VALUE}) {
            Check.noIndex(x, () -> x.close(none));
        }
        x.row(0, 1, 0L);
        Check.is(1, x.close(0));
        Check.noIndex(x, () -> x.close(1));
    }

    /** "IllegalStateException: it is CLOSED": also if its month is closed since, and one that reverses. */
    private static void itIsClosed() {
        ShopDesks x = new ShopDesks();
        x.entry(5);
        x.row(0, 1, 0L);
        Check.is(1, x.close(0));
        Check.noState(x, () -> x.close(0));
        Check.is(2, x.reverse(1, 5));
        Check.noState(x, () -> x.close(0));
        Check.noState(x, () -> x.close(1));
        x.closeMonth(119);
        Check.noState(x, () -> x.close(0));
        Check.noState(x, () -> x.close(1));
        Check.noIndex(x, () -> x.close(2));
    }
}
