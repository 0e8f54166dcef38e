/** Promise 1: in a new object nothing was told, opened or closed. */
final class Promise01NewObjectTest {
    public static void main(String[] args) {
        noTelling();
        noSet();
        noRight();
        noEntry();
        noMonthIsClosed();
        Check.end();
    }

    private static void noTelling() {
        ShopDesks x = new ShopDesks();
        for (int teller = 0; teller < 6; teller++) {
            Check.is(teller, x.set(teller));
            Check.is(0, x.mark(teller));
        }
        Check.is(ShopDesks.NONE, x.conflict(0, 0));
        Check.is(false, x.batch(0, false));
        // A number that looks like what an empty place holds was not told either.
        ShopDesks y = new ShopDesks();
        Check.is(1, y.tell(0, 0L, 0, 0, 0L, 0L));
    }

    private static void noSet() {
        ShopDesks x = new ShopDesks();
        for (int set = -1; set <= 8; set++) {
            int none = set;
            Check.noIndex(x, () -> x.mark(none));
        }
        Check.is(0, x.set(0));
    }

    private static void noRight() {
        ShopDesks x = new ShopDesks();
        x.set(0);
        for (int i = 0; i < 16; i++) {
            int person = i / 4;
            int kind = i % 4;
            Check.noState(x, () -> x.seen(person, 0, 0, kind));
            Check.keeps(x, false, () -> x.right(person, kind, false));
        }
    }

    private static void noEntry() {
        ShopDesks x = new ShopDesks();
        for (int entry = -1; entry <= 60; entry++) {
            int none = entry;
            Check.noIndex(x, () -> x.row(none, 0, 0L));
            Check.noIndex(x, () -> x.close(none));
            Check.noIndex(x, () -> x.reverse(none, 0));
        }
        for (int account = 0; account < 10; account++) {
            Check.is(0, x.balance(account, 3599));
        }
        Check.is(0, x.entry(0));
    }

    private static void noMonthIsClosed() {
        ShopDesks x = new ShopDesks();
        for (int month = 0; month < 120; month++) {
            Check.is(true, x.closeMonth(month));
        }
        ShopDesks y = new ShopDesks();
        y.entry(0);
        y.row(0, 0, 0L);
        Check.is(1, y.close(0));
    }
}
