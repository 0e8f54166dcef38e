/** Promise 17: closeMonth. */
final class Promise17CloseMonthTest {
    public static void main(String[] args) {
        ShopDesks x = new ShopDesks();
        Check.is(true, x.closeMonth(0));
        Check.is(false, x.closeMonth(0));
        Check.is(true, x.closeMonth(5));
        for (int month = 0; month <= 5; month++) {
            Check.is(false, x.closeMonth(month));
        }
        closedUpTo(x, 179);
        Check.is(true, x.closeMonth(6));
        Check.is(true, x.closeMonth(119));
        Check.is(false, x.closeMonth(119));
        Check.is(false, x.closeMonth(7));
        ShopDesks y = new ShopDesks();
        for (int none : new int[] {-1, 120, Integer.MIN_VALUE, Integer.MAX_VALUE}) {
            Check.noArgument(x, () -> x.closeMonth(none));
            Check.noArgument(y, () -> y.closeMonth(none));
        }
        Check.end();
    }

    private static void closedUpTo(ShopDesks x, int lastDay) {
        int[] days = {0, 29, 30, lastDay, lastDay + 1};
        for (int entry = 0; entry < days.length; entry++) {
            x.entry(days[entry]);
            x.row(entry, 0, 0L);
            Check.is(days[entry] > lastDay ? 1 : 0, x.close(entry));
        }
    }
}
