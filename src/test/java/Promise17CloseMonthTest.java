/** Promise 17: closeMonth. */
final class Promise17CloseMonthTest {
    public static void main(String[] args) {
        whetherItWasNot();
        andAllBeforeIt();
        eachMonthInTurn();
        onlyThoseBeforeIt();
        withEntriesThatAreOpen();
        monthIsNotAsSaid();
        Check.end();
    }

    private static void whetherItWasNot() {
        for (int month : new int[] {0, 1, 60, 118, 119}) {
            ShopDesks x = new ShopDesks();
            Check.is(true, x.closeMonth(month));
            Check.keeps(x, false, () -> x.closeMonth(month));
        }
    }

    /** "A MONTH is closed, and all before it". */
    private static void andAllBeforeIt() {
        ShopDesks x = new ShopDesks();
        Check.is(true, x.closeMonth(119));
        for (int month = 0; month < 120; month++) {
            int before = month;
            Check.keeps(x, false, () -> x.closeMonth(before));
        }
    }

    private static void eachMonthInTurn() {
        ShopDesks x = new ShopDesks();
        for (int month = 0; month < 120; month++) {
            int last = month;
            Check.is(true, x.closeMonth(month));
            Check.keeps(x, false, () -> x.closeMonth(last));
            Check.keeps(x, false, () -> x.closeMonth(last / 2));
        }
    }

    private static void onlyThoseBeforeIt() {
        ShopDesks x = new ShopDesks();
        x.closeMonth(5);
        // An earlier month that is asked for opens none again.
        Check.keeps(x, false, () -> x.closeMonth(2));
        int[] days = {0, 29, 30, 90, 179, 180, 3599};
        for (int entry = 0; entry < days.length; entry++) {
            x.entry(days[entry]);
            x.row(entry, 0, 0L);
            Check.is(Math.max(0, entry - 4), x.close(entry));
        }
        Check.is(true, x.closeMonth(6));
    }

    private static void withEntriesThatAreOpen() {
        ShopDesks x = new ShopDesks();
        x.entry(0);
        x.row(0, 0, 1L);
        Check.is(true, x.closeMonth(0));
        Check.is(2, x.row(0, 0, -1L));
        Check.is(0, x.close(0));
    }

    /** "IllegalArgumentException: month is not 0 .. 119". */
    private static void monthIsNotAsSaid() {
        ShopDesks x = new ShopDesks();
        for (int none : Check.outside(0, 119)) {
            Check.noArgument(x, () -> x.closeMonth(none));
        }
        Check.is(true, x.closeMonth(0));
        x.closeMonth(119);
        for (int none : Check.outside(0, 119)) {
            Check.noArgument(x, () -> x.closeMonth(none));
        }
    }
}
