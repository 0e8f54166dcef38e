/** Promise 7: conflict. */
final class Promise07ConflictTest {
    public static void main(String[] args) {
        ShopDesks x = new ShopDesks();
        marks(x, 9, 1, 2, Long.MAX_VALUE);
        marks(x, 0, 1, 2, 5);
        marks(x, 3, 1, 2, 5);
        marks(x, 5, 1, 1, 5);
        marks(x, 7, 1, 2, 5);
        x.tell(0, 1000L, 7, ShopDesks.SETTLE, 2L, 5L);
        x.tell(0, 1001L, 3, ShopDesks.SETTLE, 2L, 4L);
        x.tell(0, 1002L, 1, ShopDesks.SETTLE, 2L, 4L);
        x.tell(0, 1003L, 2, ShopDesks.PLACE, 1L, 4L);
        x.tell(0, 1004L, 2, ShopDesks.PLACE, 2L, 4L);
        x.set(1);
        x.set(0);
        Check.is(ShopDesks.NONE, x.conflict(0, 0));
        Check.is(0, x.conflict(1, 0));
        Check.is(3, x.conflict(1, 1));
        Check.is(9, x.conflict(1, 2));
        Check.is(ShopDesks.NONE, x.conflict(1, 3));
        Check.is(ShopDesks.NONE, x.conflict(1, Integer.MAX_VALUE));
        x.tell(1, 0L, 0, ShopDesks.SETTLE, 2L, 5L);
        x.set(1);
        x.join(1, 2);
        Check.is(3, x.conflict(1, 0));
        wrongInputs(x);
        allThings();
        Check.end();
    }

    private static void marks(ShopDesks x, int thing, long one, long other, long on) {
        x.tell(0, thing * 2, thing, ShopDesks.MARK, one, 1L);
        x.tell(0, thing * 2 + 1, thing, ShopDesks.MARK, other, on);
    }

    private static void wrongInputs(ShopDesks x) {
        for (int none : new int[] {-1, 3, 8, Integer.MIN_VALUE, Integer.MAX_VALUE}) {
            Check.noIndex(x, () -> x.conflict(none, 0));
            Check.noIndex(x, () -> x.conflict(none, -1));
        }
        Check.noArgument(x, () -> x.conflict(0, -1));
        Check.noArgument(x, () -> x.conflict(1, Integer.MIN_VALUE));
    }

    private static void allThings() {
        ShopDesks x = new ShopDesks();
        for (int thing = 0; thing < 10; thing++) {
            marks(x, thing, 1, 2, 1);
        }
        x.set(0);
        for (int k = 0; k < 10; k++) {
            Check.is(k, x.conflict(0, k));
        }
        Check.is(ShopDesks.NONE, x.conflict(0, 10));
    }
}
