/** Promise 13: entry. */
final class Promise13EntryTest {
    public static void main(String[] args) {
        whichOneItIs();
        firstAndLastDay();
        inAClosedMonth();
        dayIsNotAsSaid();
        thereAreSixty();
        thoseThatReverseAreEntries();
        Check.end();
    }

    private static void whichOneItIs() {
        ShopDesks x = new ShopDesks();
        for (int i = 0; i < 60; i++) {
            Check.is(i, x.entry(i % 2 == 0 ? 3599 - i : i));
        }
    }

    private static void firstAndLastDay() {
        for (int day : new int[] {0, 1, 3598, 3599}) {
            ShopDesks x = new ShopDesks();
            Check.is(0, x.entry(day));
            x.row(0, 0, 5L);
            x.row(0, 1, -5L);
            Check.is(1, x.close(0));
            Check.is(0, x.balance(0, day - 1));
            Check.is(5, x.balance(0, day));
        }
    }

    /** The document lets a month refuse what is closed, not what is opened. */
    private static void inAClosedMonth() {
        ShopDesks x = new ShopDesks();
        x.closeMonth(119);
        Check.is(0, x.entry(0));
        Check.is(1, x.entry(3599));
    }

    /** "IllegalArgumentException: day is not 0 .. 3599". */
    private static void dayIsNotAsSaid() {
        ShopDesks x = new ShopDesks();
        for (int none : Check.outside(0, 3599)) {
            Check.noArgument(x, () -> x.entry(none));
        }
        Check.is(0, x.entry(0));
        for (int none : Check.outside(0, 3599)) {
            Check.noArgument(x, () -> x.entry(none));
        }
        Check.is(1, x.entry(3599));
    }

    /** "IllegalStateException: there are 60". */
    private static void thereAreSixty() {
        ShopDesks x = new ShopDesks();
        for (int i = 0; i < 59; i++) {
            x.entry(0);
        }
        Check.is(59, x.entry(0));
        Check.noState(x, () -> x.entry(0));
        Check.noState(x, () -> x.entry(3599));
        for (int none : Check.outside(0, 3599)) {
            Check.noArgument(x, () -> x.entry(none));
        }
        // Closing one makes no room.
        x.row(0, 0, 0L);
        Check.is(1, x.close(0));
        Check.noState(x, () -> x.entry(0));
    }

    private static void thoseThatReverseAreEntries() {
        ShopDesks x = new ShopDesks();
        x.entry(0);
        x.row(0, 0, 0L);
        Check.is(1, x.close(0));
        Check.is(2, x.reverse(1, 0));
        for (int entry = 2; entry < 60; entry++) {
            Check.is(entry, x.entry(0));
        }
        Check.noState(x, () -> x.entry(0));
    }
}
