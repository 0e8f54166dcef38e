/** Promise 1: in a new object nothing was told, opened or closed. */
final class Promise01NewObjectTest {
    public static void main(String[] args) {
        ShopDesks x = new ShopDesks();
        Check.noIndex(x, () -> x.mark(0));
        Check.noIndex(x, () -> x.row(0, 0, 0L));
        Check.noIndex(x, () -> x.reverse(1, 0));
        for (int account = 0; account < 10; account++) {
            Check.is(0, x.balance(account, 3599));
        }
        for (int teller = 0; teller < 6; teller++) {
            Check.is(teller, x.set(teller));
            Check.is(0, x.mark(teller));
        }
        for (int person = 0; person < 4; person++) {
            noRight(x, person);
        }
        Check.is(false, x.batch(0, false));
        Check.is(ShopDesks.NONE, x.conflict(0, 0));
        Check.is(0, x.entry(0));
        Check.is(true, x.closeMonth(0));
        apart();
        Check.end();
    }

    private static void noRight(ShopDesks x, int person) {
        for (int kind = 0; kind < 4; kind++) {
            int of = kind;
            Check.noState(x, () -> x.seen(person, 0, 0, of));
            Check.is(false, x.right(person, kind, false));
        }
    }

    private static void apart() {
        ShopDesks x = new ShopDesks();
        ShopDesks y = new ShopDesks();
        x.tell(0, 1L, 0, ShopDesks.COUNT, 5L, 0L);
        x.closeMonth(119);
        Check.is(0, y.set(0));
        Check.is(0, y.mark(0));
        Check.is(true, y.closeMonth(0));
    }
}
