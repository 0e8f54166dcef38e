/** Promise 18: reverse. */
final class Promise18ReverseTest {
    public static void main(String[] args) {
        ordinary();
        sixRows();
        byNumberNotByEntry();
        theDaysMonthIsClosed();
        whatIsReversedMayBeInAClosedMonth();
        noSuchNumber();
        dayIsNotAsSaid();
        itIsReversed();
        itReverses();
        thereAreSixtyEntries();
        beforeTheMonthIsLookedAt();
        Check.end();
    }

    /** An entry of three rows, closed. */
    private static int closed(ShopDesks x, int day, long cents) {
        int entry = x.entry(day);
        x.row(entry, 1, cents);
        x.row(entry, 2, -cents - 1);
        x.row(entry, 3, 1L);
        return x.close(entry);
    }

    private static void ordinary() {
        ShopDesks x = new ShopDesks();
        Check.is(1, closed(x, 10, 100L));
        Check.is(2, x.reverse(1, 20));
        Check.is(100, x.balance(1, 19));
        Check.is(0, x.balance(1, 20));
        Check.is(-101, x.balance(2, 19));
        Check.is(0, x.balance(2, 20));
        Check.is(1, x.balance(3, 19));
        Check.is(0, x.balance(3, 20));
        Check.noState(x, () -> x.reverse(1, 20));
        Check.noState(x, () -> x.reverse(2, 20));
        Check.is(3, closed(x, 10, 1000000000L - 1));
        // A day before the day of what is reversed is as good as another.
        Check.is(4, x.reverse(3, 0));
        Check.is(-1000000000L + 1, x.balance(1, 9));
        Check.is(4, x.entry(0));
    }

    private static void sixRows() {
        ShopDesks x = new ShopDesks();
        x.entry(0);
        for (int i = 0; i < 6; i++) {
            x.row(0, i, i < 3 ? 1000000000L : -1000000000L);
        }
        Check.is(1, x.close(0));
        Check.is(2, x.reverse(1, 1));
        for (int account = 0; account < 6; account++) {
            Check.is(account < 3 ? 1000000000L : -1000000000L, x.balance(account, 0));
            Check.is(0, x.balance(account, 1));
        }
    }

    private static void byNumberNotByEntry() {
        ShopDesks x = new ShopDesks();
        x.entry(0);
        x.row(0, 5, 8L);
        x.row(0, 6, -8L);
        Check.is(1, closed(x, 1, 70L));
        Check.is(2, x.close(0));
        Check.is(3, x.reverse(2, 2));
        Check.is(0, x.balance(5, 2));
        Check.is(70, x.balance(1, 2));
        Check.is(4, x.reverse(1, 2));
        Check.is(0, x.balance(1, 2));
    }

    /** "0 if the DAY's MONTH is closed": nothing is opened or reversed then. */
    private static void theDaysMonthIsClosed() {
        ShopDesks x = new ShopDesks();
        Check.is(1, closed(x, 70, 100L));
        x.closeMonth(1);
        for (int day : new int[] {0, 29, 30, 59}) {
            Check.keeps(x, 0, () -> x.reverse(1, day));
        }
        Check.is(100, x.balance(1, 3599));
        Check.is(1, x.entry(0));
        Check.is(2, x.reverse(1, 60));
        Check.is(3, closed(x, 60, 1L));
        x.closeMonth(118);
        Check.keeps(x, 0, () -> x.reverse(3, 3569));
        Check.is(4, x.reverse(3, 3570));
        Check.is(5, closed(x, 3599, 1L));
        x.closeMonth(119);
        Check.keeps(x, 0, () -> x.reverse(5, 3599));
    }

    private static void whatIsReversedMayBeInAClosedMonth() {
        ShopDesks x = new ShopDesks();
        closed(x, 10, 100L);
        x.closeMonth(0);
        Check.is(2, x.reverse(1, 30));
        Check.is(100, x.balance(1, 29));
        Check.is(0, x.balance(1, 30));
    }

    /** "IndexOutOfBoundsException: no such NUMBER": none at first, those from 1 then. */
    private static void noSuchNumber() {
        ShopDesks x = new ShopDesks();
        Check.noIndex(x, () -> x.reverse(0, 0));
        Check.noIndex(x, () -> x.reverse(1, 0));
        x.entry(0);
        Check.noIndex(x, () -> x.reverse(0, 0));
        Check.noIndex(x, () -> x.reverse(1, 0));
        closed(x, 10, 100L);
        for (int none : new int[] {-1, 0, 2, 60, 61, Integer.MIN_VALUE, Integer.MAX_VALUE}) {
            Check.noIndex(x, () -> x.reverse(none, 0));
            Check.noIndex(x, () -> x.reverse(none, 3600));
        }
        Check.is(2, x.reverse(1, 0));
        Check.noIndex(x, () -> x.reverse(3, 0));
    }

    /** "IllegalArgumentException: day is not 0 .. 3599". */
    private static void dayIsNotAsSaid() {
        ShopDesks x = new ShopDesks();
        closed(x, 10, 100L);
        closed(x, 10, 100L);
        for (int day : Check.outside(0, 3599)) {
            Check.noArgument(x, () -> x.reverse(1, day));
        }
        Check.is(3, x.reverse(1, 3599));
        Check.is(4, x.reverse(2, 0));
        for (int day : Check.outside(0, 3599)) {
            Check.noArgument(x, () -> x.reverse(1, day));
            Check.noArgument(x, () -> x.reverse(4, day));
        }
        x.closeMonth(119);
        Check.noArgument(x, () -> x.reverse(1, 3600));
    }

    /** "IllegalStateException: it is REVERSED, ..". */
    private static void itIsReversed() {
        ShopDesks x = new ShopDesks();
        closed(x, 10, 100L);
        closed(x, 10, 100L);
        Check.is(3, x.reverse(2, 20));
        Check.noState(x, () -> x.reverse(2, 20));
        Check.noState(x, () -> x.reverse(2, 0));
        Check.is(4, x.reverse(1, 20));
        Check.noState(x, () -> x.reverse(1, 20));
    }

    /** ".. or reverses, ..". */
    private static void itReverses() {
        ShopDesks x = new ShopDesks();
        closed(x, 10, 100L);
        x.reverse(1, 20);
        Check.noState(x, () -> x.reverse(2, 20));
        Check.noState(x, () -> x.reverse(2, 3599));
    }

    /** ".. or there are 60 ENTRIES": the 60th may reverse. */
    private static void thereAreSixtyEntries() {
        ShopDesks x = new ShopDesks();
        closed(x, 40, 100L);
        closed(x, 40, 100L);
        for (int entry = 2; entry < 59; entry++) {
            x.entry(0);
        }
        Check.is(3, x.reverse(2, 40));
        Check.noState(x, () -> x.reverse(1, 40));
        Check.noIndex(x, () -> x.reverse(4, 40));
        Check.noArgument(x, () -> x.reverse(1, 3600));
        Check.noState(x, () -> x.entry(0));
        // There is no room for what reverses, though it would be refused by its month.
        x.closeMonth(1);
        Check.noState(x, () -> x.reverse(1, 40));
    }

    private static void beforeTheMonthIsLookedAt() {
        ShopDesks x = new ShopDesks();
        closed(x, 40, 100L);
        x.reverse(1, 40);
        x.closeMonth(119);
        Check.noState(x, () -> x.reverse(1, 40));
        Check.noState(x, () -> x.reverse(2, 40));
    }
}
