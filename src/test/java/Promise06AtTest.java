/** Promise 6: at, that is, what is known of each kind at a time. */
final class Promise06AtTest {
    private static final int COUNT = ShopDesks.COUNT, PLACE = ShopDesks.PLACE;
    private static final int MARK = ShopDesks.MARK, SETTLE = ShopDesks.SETTLE;

    public static void main(String[] args) {
        counts();
        latest(PLACE);
        latest(SETTLE);
        marksAlike();
        marksInConflict();
        settled();
        settledByTheLatest();
        settledWithoutMarks();
        everyTelling();
        noSuchSetOrThing();
        anotherKind();
        Check.end();
    }

    /** Tells rows of kind, value and time of thing 4 as teller 0, and makes set 0 of them. */
    private static ShopDesks told(long[]... rows) {
        ShopDesks x = new ShopDesks();
        for (int i = 0; i < rows.length; i++) {
            x.tell(0, i, 4, (int) rows[i][0], rows[i][1], rows[i][2]);
        }
        x.set(0);
        return x;
    }

    private static long[] row(long... parts) {
        return parts;
    }

    private static void counts() {
        ShopDesks x = told(row(COUNT, 10, 3), row(COUNT, -4, 5), row(COUNT, 10, 3), row(PLACE, 99, 1),
                row(COUNT, Long.MAX_VALUE, 9), row(COUNT, 1, Long.MAX_VALUE), row(COUNT, 7, Long.MIN_VALUE));
        x.tell(1, 0L, 4, COUNT, 1000L, 0L);
        Check.is(7, x.at(0, 4, COUNT, Long.MIN_VALUE));
        Check.is(7, x.at(0, 4, COUNT, 2L));
        Check.is(27, x.at(0, 4, COUNT, 3L));
        Check.is(23, x.at(0, 4, COUNT, 5L));
        Check.is(Long.MIN_VALUE + 22, x.at(0, 4, COUNT, 9L));
        Check.is(Long.MIN_VALUE + 23, x.at(0, 4, COUNT, Long.MAX_VALUE));
        Check.is(0, x.at(0, 5, COUNT, 9L));
    }

    private static void latest(int kind) {
        ShopDesks x = new ShopDesks();
        x.tell(2, 9L, 1, kind, 79L, 1L);
        x.tell(1, 5L, 1, kind, 77L, 2L);
        x.tell(2, -8L, 1, kind, 78L, 2L);
        x.tell(2, -9L, 1, kind, 76L, 2L);
        x.tell(2, 10L, 1, kind, 70L, 0L);
        x.tell(0, 1L, 1, kind, 80L, -5L);
        x.tell(3, 1L, 1, kind, 81L, Long.MAX_VALUE);
        x.tell(3, 2L, 2, kind, 82L, 0L);
        for (int teller = 0; teller < 4; teller++) {
            x.set(teller);
            x.join(0, teller);
        }
        Check.is(0, x.at(0, 1, kind, -6L));
        Check.is(80, x.at(0, 1, kind, -5L));
        Check.is(70, x.at(0, 1, kind, 0L));
        Check.is(79, x.at(0, 1, kind, 1L));
        Check.is(78, x.at(0, 1, kind, 2L));
        Check.is(78, x.at(0, 1, kind, Long.MAX_VALUE - 1));
        Check.is(81, x.at(0, 1, kind, Long.MAX_VALUE));
        Check.is(77, x.at(1, 1, kind, 2L));
        Check.is(82, x.at(0, 2, kind, 2L));
        Check.is(0, x.at(0, 1, COUNT, 2L));
    }

    private static void marksAlike() {
        ShopDesks x = told(row(MARK, 6, 1), row(MARK, 6, 2), row(MARK, 6, 2));
        Check.is(0, x.at(0, 4, MARK, 0L));
        Check.is(6, x.at(0, 4, MARK, 1L));
        Check.is(6, x.at(0, 4, MARK, 2L));
        Check.is(0, x.at(0, 3, MARK, 2L));
        Check.is(0, x.at(0, 4, SETTLE, 2L));
    }

    private static void marksInConflict() {
        ShopDesks x = told(row(MARK, 6, 1), row(MARK, 6, 2), row(MARK, 7, 3), row(MARK, 6, 4));
        Check.is(6, x.at(0, 4, MARK, 2L));
        Check.is(0, x.at(0, 4, MARK, 3L));
        Check.is(0, x.at(0, 4, MARK, 4L));
        ShopDesks y = told(row(MARK, 0, 1), row(MARK, 1, 1));
        Check.is(0, y.at(0, 4, MARK, 1L));
    }

    private static void settled() {
        ShopDesks x = told(row(MARK, 1, 1), row(MARK, 2, 4), row(SETTLE, 8, 3), row(SETTLE, 9, 4));
        Check.is(1, x.at(0, 4, MARK, 2L));
        // The mark of 4 does not hold yet, so the settle of 3 stands.
        Check.is(8, x.at(0, 4, MARK, 3L));
        Check.is(9, x.at(0, 4, MARK, 4L));
        Check.is(9, x.at(0, 4, SETTLE, 4L));
        ShopDesks y = told(row(MARK, 1, 1), row(MARK, 2, 4), row(SETTLE, 8, 3));
        Check.is(0, y.at(0, 4, MARK, 4L));
        Check.is(8, y.at(0, 4, SETTLE, 4L));
        // Marks that are alike are settled too, and count again behind a settle.
        ShopDesks z = told(row(MARK, 1, 1), row(SETTLE, 8, 1), row(MARK, 1, 2));
        Check.is(8, z.at(0, 4, MARK, 1L));
        Check.is(1, z.at(0, 4, MARK, 2L));
    }

    private static void settledByTheLatest() {
        ShopDesks x = told(row(MARK, 1, 1), row(MARK, 2, 1), row(SETTLE, 8, 5), row(SETTLE, 9, 2));
        x.tell(1, -7L, 4, SETTLE, 10L, 5L);
        x.tell(1, -8L, 4, SETTLE, 11L, 5L);
        x.tell(1, 0L, 5, SETTLE, 12L, 6L);
        x.set(1);
        x.join(0, 1);
        Check.is(0, x.at(0, 4, MARK, 1L));
        Check.is(9, x.at(0, 4, MARK, 4L));
        Check.is(10, x.at(0, 4, MARK, 6L));
        Check.is(0, x.at(0, 4, PLACE, 6L));
    }

    private static void settledWithoutMarks() {
        ShopDesks x = told(row(SETTLE, 8, 5), row(MARK, 3, 7));
        Check.is(0, x.at(0, 4, MARK, 4L));
        Check.is(8, x.at(0, 4, MARK, 5L));
        Check.is(3, x.at(0, 4, MARK, 7L));
    }

    private static void everyTelling() {
        long[][] rows = new long[300][];
        for (int i = 0; i < 300; i++) {
            rows[i] = row(i % 4, i % 4 == MARK ? 5 : i, i % 4 == MARK ? 400 : i);
        }
        ShopDesks x = told(rows);
        // 0 + 4 + .. + 296
        Check.is(11100, x.at(0, 4, COUNT, 400L));
        Check.is(297, x.at(0, 4, PLACE, 400L));
        Check.is(299, x.at(0, 4, MARK, 399L));
        Check.is(5, x.at(0, 4, MARK, 400L));
        Check.is(299, x.at(0, 4, SETTLE, 400L));
        Check.is(ShopDesks.NONE, x.conflict(0, 0));
    }

    private static void noSuchSetOrThing() {
        ShopDesks x = told();
        for (int none : new int[] {-1, 1, 8, Integer.MIN_VALUE, Integer.MAX_VALUE}) {
            Check.noIndex(x, () -> x.at(none, 0, 0, 0L));
            Check.noIndex(x, () -> x.at(none, 0, 4, 0L));
        }
        for (int none : Check.outside(0, 9)) {
            Check.noIndex(x, () -> x.at(0, none, 0, 0L));
            Check.noIndex(x, () -> x.at(0, none, 4, 0L));
        }
        ShopDesks y = new ShopDesks();
        Check.noIndex(y, () -> y.at(0, 0, 0, 0L));
    }

    /** "IllegalArgumentException: another kind". */
    private static void anotherKind() {
        ShopDesks x = told();
        for (int none : Check.outside(0, 3)) {
            Check.noArgument(x, () -> x.at(0, 0, none, 0L));
            Check.noArgument(x, () -> x.at(0, 9, none, Long.MAX_VALUE));
        }
    }
}
