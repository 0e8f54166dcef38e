/** Promise 18: reverse. */
final class Promise18ReverseTest {
    public static void main(String[] args) {
        ordinary();
        sixRows();
        byNumberNotByEntry();
        months();
        wrongInputs();
        full();
        Check.end();
    }

    /** An entry of three rows, closed. */
    private static int closed(ShopDesks x, int day, long cents) {
        int entry = x.entry(day);
        x.row(entry, 1, cents);
        x.row(entry, 2, -cents - 1);
        x.row(entry, 3, 1L);
        return x.close(entry);
    }

    private static void ordinary() {
        ShopDesks x = new ShopDesks();
        Check.is(1, closed(x, 10, 100L));
        Check.is(2, x.reverse(1, 20));
        Check.is(100, x.balance(1, 19));
        Check.is(0, x.balance(1, 20));
        Check.is(-101, x.balance(2, 19));
        Check.is(0, x.balance(2, 20));
        Check.is(1, x.balance(3, 19));
        Check.is(0, x.balance(3, 20));
        Check.noState(x, () -> x.reverse(1, 20));
        Check.noState(x, () -> x.reverse(2, 20));
        Check.is(3, closed(x, 10, 1000000000L - 1));
        // A day before the day of what is reversed is as good as another.
        Check.is(4, x.reverse(3, 0));
        Check.is(-1000000000L + 1, x.balance(1, 9));
        Check.is(4, x.entry(0));
    }

    private static void sixRows() {
        ShopDesks x = new ShopDesks();
        x.entry(0);
        for (int i = 0; i < 6; i++) {
            x.row(0, i, i < 3 ? 1000000000L : -1000000000L);
        }
        Check.is(1, x.close(0));
        Check.is(2, x.reverse(1, 1));
        for (int account = 0; account < 6; account++) {
            Check.is(account < 3 ? 1000000000L : -1000000000L, x.balance(account, 0));
            Check.is(0, x.balance(account, 1));
        }
    }

    private static void byNumberNotByEntry() {
        ShopDesks x = new ShopDesks();
        x.entry(0);
        x.row(0, 5, 8L);
        x.row(0, 6, -8L);
        Check.is(1, closed(x, 1, 70L));
        Check.is(2, x.close(0));
        Check.is(3, x.reverse(2, 2));
        Check.is(0, x.balance(5, 2));
        Check.is(70, x.balance(1, 2));
        Check.is(4, x.reverse(1, 2));
        Check.is(0, x.balance(1, 2));
    }

    private static void months() {
        ShopDesks x = new ShopDesks();
        Check.is(1, closed(x, 10, 100L));
        x.closeMonth(1);
        Check.is(0, x.reverse(1, 59));
        Check.is(0, x.reverse(1, 0));
        Check.is(100, x.balance(1, 3599));
        Check.is(1, x.entry(0));
        Check.is(2, x.reverse(1, 60));
        Check.noState(x, () -> x.reverse(1, 0));
        Check.noState(x, () -> x.reverse(2, 0));
        Check.is(3, closed(x, 60, 1L));
        x.closeMonth(119);
        Check.is(0, x.reverse(3, 3599));
    }

    private static void wrongInputs() {
        ShopDesks x = new ShopDesks();
        Check.noIndex(x, () -> x.reverse(1, 0));
        x.entry(0);
        Check.noIndex(x, () -> x.reverse(1, 0));
        closed(x, 10, 100L);
        for (int none : new int[] {-1, 0, 2, 60, 61, Integer.MIN_VALUE, Integer.MAX_VALUE}) {
            Check.noIndex(x, () -> x.reverse(none, 0));
            Check.noIndex(x, () -> x.reverse(none, 3600));
        }
        for (int day : new int[] {-1, 3600, Integer.MIN_VALUE, Integer.MAX_VALUE}) {
            Check.noArgument(x, () -> x.reverse(1, day));
        }
        Check.is(2, x.reverse(1, 3599));
        Check.noArgument(x, () -> x.reverse(1, 3600));
        Check.noArgument(x, () -> x.reverse(2, -1));
        Check.noState(x, () -> x.reverse(1, 3599));
    }

    private static void full() {
        ShopDesks x = new ShopDesks();
        closed(x, 40, 100L);
        closed(x, 40, 100L);
        for (int entry = 2; entry < 59; entry++) {
            x.entry(0);
        }
        Check.is(3, x.reverse(2, 40));
        Check.noState(x, () -> x.reverse(1, 40));
        Check.noIndex(x, () -> x.reverse(4, 40));
        Check.noArgument(x, () -> x.reverse(1, 3600));
        Check.noState(x, () -> x.entry(0));
        x.closeMonth(1);
        Check.noState(x, () -> x.reverse(1, 40));
    }
}
