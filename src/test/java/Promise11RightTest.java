/** Promise 11: right. */
final class Promise11RightTest {
    public static void main(String[] args) {
        ShopDesks x = new ShopDesks();
        x.set(0);
        Check.is(false, x.right(1, 2, false));
        Check.is(true, x.right(1, 2, true));
        Check.is(false, x.right(1, 2, true));
        onlyThatOne(x);
        Check.is(true, x.right(1, 2, false));
        Check.is(false, x.right(1, 2, false));
        Check.noState(x, () -> x.seen(1, 0, 0, 2));
        Check.is(true, x.right(0, 0, true));
        Check.is(true, x.right(3, 3, true));
        Check.is(true, x.right(3, 3, false));
        Check.is(false, x.right(0, 0, true));
        wrongInputs(x);
        Check.end();
    }

    private static void onlyThatOne(ShopDesks x) {
        for (int i = 0; i < 16; i++) {
            int person = i / 4;
            int kind = i % 4;
            if (person == 1 && kind == 2) {
                Check.is(0, x.seen(person, 0, 0, kind));
            } else {
                Check.noState(x, () -> x.seen(person, 0, 0, kind));
            }
        }
    }

    private static void wrongInputs(ShopDesks x) {
        for (int none : new int[] {-1, 4, Integer.MIN_VALUE, Integer.MAX_VALUE}) {
            Check.noIndex(x, () -> x.right(none, 0, true));
            Check.noIndex(x, () -> x.right(none, 4, true));
            Check.noArgument(x, () -> x.right(0, none, true));
            Check.noArgument(x, () -> x.right(3, none, false));
        }
    }
}
