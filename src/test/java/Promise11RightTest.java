/** Promise 11: right. */
final class Promise11RightTest {
    public static void main(String[] args) {
        whetherThatIsNew();
        eachPersonAndKind();
        noSuchPerson();
        anotherKind();
        Check.end();
    }

    private static void whetherThatIsNew() {
        ShopDesks x = new ShopDesks();
        x.set(0);
        Check.keeps(x, false, () -> x.right(1, 2, false));
        for (int again = 0; again < 3; again++) {
            Check.is(true, x.right(1, 2, true));
            Check.keeps(x, false, () -> x.right(1, 2, true));
            Check.is(0, x.seen(1, 0, 0, 2));
            Check.is(true, x.right(1, 2, false));
            Check.keeps(x, false, () -> x.right(1, 2, false));
            Check.noState(x, () -> x.seen(1, 0, 0, 2));
        }
    }

    private static void eachPersonAndKind() {
        ShopDesks x = new ShopDesks();
        for (int i = 0; i < 16; i++) {
            Check.is(true, x.right(i / 4, i % 4, true));
        }
        for (int i = 15; i >= 0; i--) {
            Check.is(false, x.right(i / 4, i % 4, true));
            Check.is(true, x.right(i / 4, i % 4, false));
        }
        for (int i = 0; i < 16; i++) {
            Check.is(false, x.right(i / 4, i % 4, false));
        }
    }

    private static void noSuchPerson() {
        ShopDesks x = new ShopDesks();
        for (int none : Check.outside(0, 3)) {
            Check.noIndex(x, () -> x.right(none, 0, true));
            Check.noIndex(x, () -> x.right(none, 3, false));
            Check.noIndex(x, () -> x.right(none, 4, true));
            Check.noIndex(x, () -> x.right(none, -1, false));
        }
    }

    private static void anotherKind() {
        ShopDesks x = new ShopDesks();
        for (int none : Check.outside(0, 3)) {
            for (int person = 0; person < 4; person++) {
                int of = person;
                Check.noArgument(x, () -> x.right(of, none, true));
                Check.noArgument(x, () -> x.right(of, none, false));
            }
        }
    }
}
