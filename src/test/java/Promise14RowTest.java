/** Promise 14: row. */
final class Promise14RowTest {
    private static final long MOST = 1000000000L;

    public static void main(String[] args) {
        howManyItHas();
        centsToBothEnds();
        oneAccountTwice();
        inAClosedMonth();
        noSuchEntryOrAccount();
        centsAreNotAsSaid();
        itHasSix();
        itIsClosed();
        itReverses();
        Check.end();
    }

    private static void howManyItHas() {
        ShopDesks x = new ShopDesks();
        x.entry(5);
        x.entry(5);
        for (int i = 1; i <= 6; i++) {
            Check.is(i, x.row(0, i, 1L));
            if (i <= 3) {
                Check.is(i, x.row(1, 9 - i, 1L));
            }
        }
        Check.is(4, x.row(1, 0, 1L));
    }

    private static void centsToBothEnds() {
        ShopDesks x = new ShopDesks();
        x.entry(5);
        Check.is(1, x.row(0, 0, MOST));
        Check.is(2, x.row(0, 9, -MOST));
        Check.is(3, x.row(0, 8, 0L));
        Check.is(4, x.row(0, 7, MOST - 1));
        Check.is(5, x.row(0, 6, -MOST + 1));
        Check.is(1, x.close(0));
        Check.is(MOST, x.balance(0, 5));
        Check.is(-MOST, x.balance(9, 5));
        Check.is(0, x.balance(8, 5));
        Check.is(MOST - 1, x.balance(7, 5));
        Check.is(-MOST + 1, x.balance(6, 5));
    }

    private static void oneAccountTwice() {
        ShopDesks x = new ShopDesks();
        x.entry(5);
        Check.is(1, x.row(0, 4, 7L));
        Check.is(2, x.row(0, 4, 7L));
        Check.is(3, x.row(0, 5, -14L));
        Check.is(1, x.close(0));
        Check.is(14, x.balance(4, 5));
    }

    private static void inAClosedMonth() {
        ShopDesks x = new ShopDesks();
        x.entry(5);
        x.closeMonth(119);
        Check.is(1, x.row(0, 0, 1L));
    }

    private static void noSuchEntryOrAccount() {
        ShopDesks x = new ShopDesks();
        Check.noIndex(x, () -> x.row(0, 0, 0L));
        x.entry(5);
        for (int none : new int[] {-1, 1, 60, Integer.MIN_VALUE, Integer.MAX_VALUE}) {
            Check.noIndex(x, () -> x.row(none, 0, 0L));
            Check.noIndex(x, () -> x.row(none, 0, MOST + 1));
        }
        for (int none : Check.outside(0, 9)) {
            Check.noIndex(x, () -> x.row(0, none, 0L));
            Check.noIndex(x, () -> x.row(0, none, MOST + 1));
        }
        Check.is(1, x.row(0, 0, 0L));
    }

    /** "IllegalArgumentException: cents are not -1000000000 .. 1000000000". */
    private static void centsAreNotAsSaid() {
        ShopDesks x = new ShopDesks();
        x.entry(5);
        for (long cents : new long[] {MOST + 1, -MOST - 1, Long.MIN_VALUE, Long.MAX_VALUE, 1L << 32, -(1L << 32)}) {
            Check.noArgument(x, () -> x.row(0, 0, cents));
        }
        Check.is(1, x.row(0, 0, 0L));
    }

    /** "IllegalStateException: it has 6, ..": also rows that together are 0. */
    private static void itHasSix() {
        ShopDesks x = new ShopDesks();
        x.entry(5);
        for (int i = 1; i <= 6; i++) {
            Check.is(i, x.row(0, i, 0L));
        }
        Check.noState(x, () -> x.row(0, 0, 1L));
        Check.noState(x, () -> x.row(0, 1, 0L));
        Check.noIndex(x, () -> x.row(1, 0, 1L));
        Check.noIndex(x, () -> x.row(0, 10, 1L));
        Check.noArgument(x, () -> x.row(0, 0, MOST + 1));
        Check.is(1, x.close(0));
        Check.noState(x, () -> x.row(0, 0, 0L));
    }

    /** ".. or is CLOSED": with one row or with five. */
    private static void itIsClosed() {
        for (int rows = 1; rows <= 5; rows++) {
            ShopDesks x = new ShopDesks();
            x.entry(5);
            for (int i = 0; i < rows; i++) {
                x.row(0, i, 0L);
            }
            x.close(0);
            Check.noState(x, () -> x.row(0, 0, 1L));
            Check.noState(x, () -> x.row(0, 0, 0L));
            Check.noIndex(x, () -> x.row(0, -1, 1L));
            Check.noArgument(x, () -> x.row(0, 0, -MOST - 1));
        }
    }

    private static void itReverses() {
        ShopDesks x = new ShopDesks();
        x.entry(5);
        x.row(0, 1, 0L);
        x.close(0);
        x.reverse(1, 5);
        Check.noState(x, () -> x.row(0, 0, 1L));
        Check.noState(x, () -> x.row(1, 0, 1L));
        Check.noIndex(x, () -> x.row(2, 0, 1L));
    }
}
