/** Terms: "ENTRIES 0 .. 59 (as they are opened) have a DAY 0 .. 3599 and ROWS, 6 at most: .." */
final class TermsEntriesTest {
    private static final long MOST = 1000000000L;

    public static void main(String[] args) {
        sixtyEntries();
        onlyEntriesThatWereOpened();
        sixRowsAtMost();
        tenAccounts();
        closedWithARow();
        closedAtZero();
        refusedStaysOpen();
        refusedTakesNoNumber();
        sixtyNumbers();
        countsOnceClosed();
        monthsAreThirtyDays();
        inTheMonthOrBeforeIt();
        openedInAClosedMonth();
        closedBeforeItsMonth();
        reversedIsClosedAtOnce();
        reversedOnce();
        notOneThatReverses();
        Check.end();
    }

    private static int opened(ShopDesks x, int day, long... cents) {
        int entry = x.entry(day);
        for (int i = 0; i < cents.length; i++) {
            x.row(entry, i, cents[i]);
        }
        return entry;
    }

    private static int closed(ShopDesks x, int day, long... cents) {
        return x.close(opened(x, day, cents));
    }

    /** "ENTRIES 0 .. 59 (as they are opened)": whether they are closed or not, those that reverse too. */
    private static void sixtyEntries() {
        ShopDesks x = new ShopDesks();
        for (int entry = 0; entry < 57; entry++) {
            Check.is(entry, x.entry(3599 - entry));
        }
        Check.is(57, opened(x, 0, 5, -5));
        Check.is(1, x.close(57));
        Check.is(2, x.reverse(1, 0));
        Check.is(59, opened(x, 3599, 5, -5));
        Check.noState(x, () -> x.entry(0));
        Check.noState(x, () -> x.entry(3599));
        Check.is(3, x.close(59));
        Check.noState(x, () -> x.reverse(3, 0));
        Check.is(1, x.row(56, 0, 1L));
    }

    private static void onlyEntriesThatWereOpened() {
        ShopDesks x = new ShopDesks();
        for (int entry = 0; entry < 60; entry++) {
            int next = entry;
            Check.noIndex(x, () -> x.row(next, 0, 0L));
            Check.noIndex(x, () -> x.close(next));
            x.entry(0);
            Check.keeps(x, 0, () -> x.close(next));
        }
        for (int none : Check.outside(0, 59)) {
            Check.noIndex(x, () -> x.row(none, 0, 0L));
            Check.noIndex(x, () -> x.close(none));
        }
    }

    /** "ROWS, 6 at most": of one entry, whatever another has. */
    private static void sixRowsAtMost() {
        ShopDesks x = new ShopDesks();
        x.entry(0);
        x.entry(0);
        for (int i = 1; i <= 6; i++) {
            Check.is(i, x.row(0, 0, i));
            Check.is(i, x.row(1, 0, -i));
        }
        Check.noState(x, () -> x.row(0, 0, -21L));
        Check.noState(x, () -> x.row(1, 0, 21L));
        Check.keeps(x, 0, () -> x.close(0));
        x.entry(0);
        Check.is(1, x.row(2, 0, 0L));
    }

    /** "an ACCOUNT 0 .. 9 and cents". */
    private static void tenAccounts() {
        ShopDesks x = new ShopDesks();
        for (int account = 0; account < 10; account++) {
            x.entry(0);
            x.row(account, account, account + 1);
            x.row(account, (account + 1) % 10, -account - 1);
            Check.is(account + 1, x.close(account));
        }
        Check.is(1 - 10, x.balance(0, 0));
        for (int account = 1; account < 10; account++) {
            Check.is(1, x.balance(account, 0));
        }
        for (int none : Check.outside(0, 9)) {
            x.entry(0);
            Check.noIndex(x, () -> x.row(10, none, 0L));
            Check.noIndex(x, () -> x.balance(none, 0));
        }
    }

    /** "CLOSED, if it has a ROW": without one it is refused, though nothing together is 0. */
    private static void closedWithARow() {
        ShopDesks x = new ShopDesks();
        x.entry(0);
        Check.keeps(x, 0, () -> x.close(0));
        x.row(0, 0, 0L);
        Check.is(1, x.close(0));
    }

    /** "and all its cents together are 0": one cent more or less is refused. */
    private static void closedAtZero() {
        ShopDesks x = new ShopDesks();
        Check.is(0, closed(x, 0, 1));
        Check.is(0, closed(x, 0, -1));
        Check.is(0, closed(x, 0, MOST, -MOST + 1));
        Check.is(0, closed(x, 0, MOST - 1, -MOST));
        Check.is(0, closed(x, 0, 1, -1, 1));
        Check.is(0, closed(x, 0, 0, 0, 0, 0, 0, 1));
        Check.is(0, closed(x, 0, 1, 0, 0, 0, 0, 0));
        Check.is(0, closed(x, 0, MOST, MOST, MOST, MOST, MOST, MOST));
        // 2 to the 32nd, which is 0 as an int.
        Check.is(0, closed(x, 0, MOST, MOST, MOST, MOST, 294967296));
        Check.is(1, closed(x, 0, MOST, -MOST));
        Check.is(2, closed(x, 0, MOST, MOST, MOST, -MOST, -MOST, -MOST));
        Check.is(3, closed(x, 0, 0, 0, 0, 0, 0, 0));
        Check.is(4, closed(x, 0, 5, -2, -2, -1));
    }

    /** "else it is refused, and stays open": rows can be added, and it can be closed then. */
    private static void refusedStaysOpen() {
        ShopDesks x = new ShopDesks();
        x.entry(0);
        Check.keeps(x, 0, () -> x.close(0));
        Check.is(1, x.row(0, 0, 5L));
        Check.keeps(x, 0, () -> x.close(0));
        Check.keeps(x, 0, () -> x.close(0));
        Check.is(2, x.row(0, 1, -5L));
        Check.is(1, x.close(0));
        Check.noState(x, () -> x.close(0));
    }

    /** "it gets the next NUMBER 1, 2, ..": those that are refused, and opened before, get none. */
    private static void refusedTakesNoNumber() {
        ShopDesks x = new ShopDesks();
        Check.is(0, closed(x, 0, 5));
        Check.noIndex(x, () -> x.reverse(1, 0));
        Check.is(1, closed(x, 0, 5, -5));
        Check.is(0, closed(x, 0));
        Check.is(0, closed(x, 0, 5, 5));
        Check.noIndex(x, () -> x.reverse(2, 0));
        Check.is(2, closed(x, 0, 5, -5));
        x.row(0, 1, -5L);
        Check.is(3, x.close(0));
    }

    private static void sixtyNumbers() {
        ShopDesks x = new ShopDesks();
        for (int entry = 0; entry < 60; entry++) {
            x.entry(0);
            x.row(entry, 0, 0L);
        }
        for (int number = 1; number <= 60; number++) {
            Check.is(number, x.close((number * 7) % 60));
        }
        Check.noState(x, () -> x.reverse(60, 0));
        Check.noIndex(x, () -> x.reverse(61, 0));
    }

    /** "and counts": an entry that is open, or refused, does not. */
    private static void countsOnceClosed() {
        ShopDesks x = new ShopDesks();
        opened(x, 0, 5, -5);
        opened(x, 0, 70);
        x.close(1);
        Check.is(0, x.balance(0, 3599));
        x.close(0);
        Check.is(5, x.balance(0, 3599));
        Check.is(-5, x.balance(1, 3599));
        x.row(1, 1, -70L);
        Check.is(5, x.balance(0, 3599));
        x.close(1);
        Check.is(75, x.balance(0, 3599));
    }

    /** "MONTHS are 30 days": the last day of one and the first of the next, at both ends. */
    private static void monthsAreThirtyDays() {
        for (int month : new int[] {0, 1, 2, 59, 117, 118}) {
            ShopDesks x = new ShopDesks();
            opened(x, month * 30 + 29, 0);
            opened(x, month * 30 + 30, 0);
            x.closeMonth(month);
            Check.keeps(x, 0, () -> x.close(0));
            Check.is(1, x.close(1));
        }
    }

    /** "once MONTH m is closed, no ENTRY of a DAY in it or before it can be CLOSED". */
    private static void inTheMonthOrBeforeIt() {
        ShopDesks x = new ShopDesks();
        int[] days = {0, 29, 30, 119, 120, 149, 150, 3599};
        for (int day : days) {
            opened(x, day, 0);
        }
        x.closeMonth(4);
        for (int entry = 0; entry < 6; entry++) {
            int in = entry;
            Check.keeps(x, 0, () -> x.close(in));
        }
        Check.is(1, x.close(6));
        x.closeMonth(119);
        Check.keeps(x, 0, () -> x.close(7));
        Check.keeps(x, 0, () -> x.reverse(1, 3599));
    }

    private static void openedInAClosedMonth() {
        ShopDesks x = new ShopDesks();
        x.closeMonth(119);
        Check.is(0, opened(x, 0, 5, -5));
        Check.is(1, opened(x, 3599, 5, -5));
        Check.is(3, x.row(0, 0, 1L));
        Check.keeps(x, 0, () -> x.close(0));
        Check.keeps(x, 0, () -> x.close(1));
    }

    private static void closedBeforeItsMonth() {
        ShopDesks x = new ShopDesks();
        Check.is(1, closed(x, 10, 5, -5));
        x.closeMonth(0);
        Check.is(5, x.balance(0, 10));
        Check.noState(x, () -> x.close(0));
        // What is in a closed month is reversed in one that is open.
        Check.is(2, x.reverse(1, 30));
        Check.is(5, x.balance(0, 29));
        Check.is(0, x.balance(0, 30));
    }

    /** "REVERSED is a NUMBER by an ENTRY of a DAY that is told, with all its ROWS' cents turned round". */
    private static void reversedIsClosedAtOnce() {
        for (int rows = 1; rows <= 6; rows++) {
            ShopDesks x = new ShopDesks();
            long[] cents = new long[rows];
            for (int i = 1; i < rows; i++) {
                cents[i] = i;
                cents[0] -= i;
            }
            Check.is(1, closed(x, 7, cents));
            Check.is(2, x.reverse(1, 3));
            for (int account = 0; account < rows; account++) {
                Check.is(0, x.balance(account, 2));
                Check.is(-cents[account], x.balance(account, 3));
                Check.is(-cents[account], x.balance(account, 6));
                Check.is(0, x.balance(account, 7));
            }
            Check.noState(x, () -> x.close(1));
            Check.noState(x, () -> x.row(1, 0, 0L));
            Check.is(2, x.entry(0));
        }
    }

    /** "each NUMBER once". */
    private static void reversedOnce() {
        ShopDesks x = new ShopDesks();
        closed(x, 7, 5, -5);
        closed(x, 7, 6, -6);
        Check.is(3, x.reverse(1, 7));
        Check.noState(x, () -> x.reverse(1, 7));
        Check.noState(x, () -> x.reverse(1, 8));
        Check.is(4, x.reverse(2, 7));
        Check.noState(x, () -> x.reverse(2, 7));
        Check.is(0, x.balance(0, 3599));
    }

    /** "and not one that reverses". */
    private static void notOneThatReverses() {
        ShopDesks x = new ShopDesks();
        closed(x, 7, 5, -5);
        x.reverse(1, 7);
        Check.noState(x, () -> x.reverse(2, 7));
        closed(x, 7, 6, -6);
        Check.is(4, x.reverse(3, 7));
        Check.noState(x, () -> x.reverse(4, 7));
        Check.noIndex(x, () -> x.reverse(5, 7));
    }
}
