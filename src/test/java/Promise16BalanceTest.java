/** Promise 16: balance. */
final class Promise16BalanceTest {
    public static void main(String[] args) {
        nothingAtAll();
        upToADay();
        anyDay();
        onlyWhatIsClosed();
        closedMonthsCount();
        theGreatestSum();
        noSuchAccount();
        Check.end();
    }

    private static int opened(ShopDesks x, int day, long cents) {
        int entry = x.entry(day);
        x.row(entry, 1, cents - 1);
        x.row(entry, 9, -cents);
        x.row(entry, 1, 1L);
        return entry;
    }

    private static void nothingAtAll() {
        ShopDesks x = new ShopDesks();
        for (int account = 0; account < 10; account++) {
            int of = account;
            Check.keeps(x, 0, () -> x.balance(of, 3599));
        }
        x.entry(0);
        Check.is(0, x.balance(0, 3599));
    }

    /** "of DAYS up to one": that day is in. */
    private static void upToADay() {
        ShopDesks x = new ShopDesks();
        for (int day : new int[] {10, 5, 3599, 0}) {
            x.close(opened(x, day, day + 1));
        }
        Check.is(1, x.balance(1, 0));
        Check.is(1, x.balance(1, 4));
        Check.is(7, x.balance(1, 5));
        Check.is(7, x.balance(1, 9));
        Check.is(18, x.balance(1, 10));
        Check.is(18, x.balance(1, 3598));
        Check.is(3618, x.balance(1, 3599));
        Check.is(-3618, x.balance(9, 3599));
        Check.is(0, x.balance(0, 3599));
    }

    /** No exception is named for the day: before the first there is nothing, behind the last all. */
    private static void anyDay() {
        ShopDesks x = new ShopDesks();
        x.close(opened(x, 0, 20));
        x.close(opened(x, 3599, 3));
        Check.keeps(x, 0, () -> x.balance(1, -1));
        Check.keeps(x, 0, () -> x.balance(1, Integer.MIN_VALUE));
        Check.keeps(x, 23, () -> x.balance(1, 3600));
        Check.keeps(x, 23, () -> x.balance(1, Integer.MAX_VALUE));
    }

    private static void onlyWhatIsClosed() {
        ShopDesks x = new ShopDesks();
        int first = opened(x, 7, 100);
        int second = opened(x, 7, 20);
        Check.is(0, x.balance(1, 7));
        x.row(first, 1, 1L);
        Check.is(0, x.close(first));
        Check.is(0, x.balance(1, 7));
        x.close(second);
        Check.is(20, x.balance(1, 7));
        x.row(first, 2, -1L);
        x.close(first);
        Check.is(121, x.balance(1, 7));
        Check.is(-1, x.balance(2, 7));
        x.reverse(1, 8);
        Check.is(121, x.balance(1, 7));
        Check.is(101, x.balance(1, 8));
    }

    private static void closedMonthsCount() {
        ShopDesks x = new ShopDesks();
        x.close(opened(x, 7, 100));
        int late = opened(x, 7, 20);
        x.closeMonth(0);
        x.close(late);
        Check.is(100, x.balance(1, 7));
        x.closeMonth(119);
        Check.is(100, x.balance(1, 3599));
    }

    private static void theGreatestSum() {
        ShopDesks x = new ShopDesks();
        for (int entry = 0; entry < 60; entry++) {
            x.entry(0);
            for (int i = 0; i < 6; i++) {
                x.row(entry, i % 2, i % 2 == 0 ? 1000000000L : -1000000000L);
            }
            x.close(entry);
        }
        Check.is(180000000000L, x.balance(0, 0));
        Check.is(-180000000000L, x.balance(1, 0));
    }

    private static void noSuchAccount() {
        ShopDesks x = new ShopDesks();
        for (int none : Check.outside(0, 9)) {
            Check.noIndex(x, () -> x.balance(none, 0));
            Check.noIndex(x, () -> x.balance(none, -1));
            Check.noIndex(x, () -> x.balance(none, 3600));
        }
    }
}
