/** Terms, the last paragraph: "A call that throws changes nothing; of several exceptions the one named first is thrown. .." */
final class TermsExceptionsTest {
    private static final int[] FEW = {-1, Integer.MIN_VALUE};

    public static void main(String[] args) {
        // Each on an object of its own, to stay within 512 calls.
        tell(full());
        sets(full());
        atAndConflict(full());
        since(full());
        rightAndSeen(full());
        entryAndRow(full());
        closeAndBalance(full());
        reverse(full());
        refusedCallsLeaveTheNextAnswersAlone();
        Check.end();
    }

    /** No room for anything: 300 tellings, 8 sets, 60 entries; entry 0 has 6 rows, number 1 is reversed by 2. */
    private static ShopDesks full() {
        ShopDesks x = new ShopDesks();
        for (int i = 0; i < 300; i++) {
            x.tell(i % 6, i, i % 10, i % 4, i, i);
        }
        for (int set = 0; set < 8; set++) {
            x.set(set % 6);
        }
        for (int entry = 0; entry < 59; entry++) {
            x.entry(entry);
        }
        for (int i = 0; i < 6; i++) {
            x.row(0, i, i);
        }
        x.row(1, 0, 0L);
        x.close(1);
        x.reverse(1, 100);
        return x;
    }

    /** IndexOutOfBoundsException, then IllegalArgumentException, then IllegalStateException. */
    private static void tell(ShopDesks x) {
        for (int none : Check.outside(0, 5)) {
            Check.noIndex(x, () -> x.tell(none, 999L, 0, 4, 0L, 0L));
            Check.noIndex(x, () -> x.tell(none, 999L, 0, 0, 0L, 0L));
            Check.noIndex(x, () -> x.tell(none, 0L, 10, -1, 0L, 0L));
        }
        for (int none : Check.outside(0, 9)) {
            Check.noIndex(x, () -> x.tell(0, 999L, none, 4, 0L, 0L));
            Check.noIndex(x, () -> x.tell(0, 999L, none, 0, 0L, 0L));
            // Also of a number that was told.
            Check.noIndex(x, () -> x.tell(0, 0L, none, 0, 0L, 0L));
        }
        for (int none : Check.outside(0, 3)) {
            Check.noArgument(x, () -> x.tell(5, 999L, 9, none, 0L, 0L));
            Check.noArgument(x, () -> x.tell(0, 0L, 0, none, 0L, 0L));
        }
        Check.noState(x, () -> x.tell(5, 999L, 9, 3, 0L, 0L));
    }

    private static void sets(ShopDesks x) {
        for (int none : Check.outside(0, 5)) {
            Check.noIndex(x, () -> x.set(none));
        }
        Check.noState(x, () -> x.set(5));
        for (int none : Check.outside(0, 7)) {
            Check.noIndex(x, () -> x.join(none, 7));
            Check.noIndex(x, () -> x.join(7, none));
            Check.noIndex(x, () -> x.join(none, none));
            Check.noIndex(x, () -> x.equal(none, 7));
            Check.noIndex(x, () -> x.equal(7, none));
            Check.noIndex(x, () -> x.equal(none, none));
            Check.noIndex(x, () -> x.mark(none));
            Check.noIndex(x, () -> x.batch(none, true));
            Check.noIndex(x, () -> x.batch(none, false));
        }
    }

    private static void atAndConflict(ShopDesks x) {
        for (int none : Check.outside(0, 7)) {
            Check.noIndex(x, () -> x.at(none, 9, 3, 0L));
            Check.noIndex(x, () -> x.at(none, 9, 4, 0L));
            Check.noIndex(x, () -> x.at(none, 10, -1, 0L));
            Check.noIndex(x, () -> x.conflict(none, 0));
            Check.noIndex(x, () -> x.conflict(none, -1));
        }
        for (int none : Check.outside(0, 9)) {
            Check.noIndex(x, () -> x.at(7, none, 3, 0L));
            Check.noIndex(x, () -> x.at(7, none, 4, 0L));
        }
        for (int none : Check.outside(0, 3)) {
            Check.noArgument(x, () -> x.at(7, 9, none, Long.MAX_VALUE));
        }
        for (int below : FEW) {
            Check.noArgument(x, () -> x.conflict(7, below));
        }
    }

    /** Set 0 has 50 tellings. */
    private static void since(ShopDesks x) {
        for (int none : Check.outside(0, 7)) {
            Check.noIndex(x, () -> x.since(none, 0, 0, 0));
            Check.noIndex(x, () -> x.since(none, -1, 0, 0));
            Check.noIndex(x, () -> x.since(none, 0, -1, 0));
            Check.noIndex(x, () -> x.since(none, 0, 0, 3));
        }
        for (int other : Check.outside(0, 2)) {
            Check.noIndex(x, () -> x.since(0, 50, 0, other));
            Check.noIndex(x, () -> x.since(0, 0, 50, other));
            Check.noArgument(x, () -> x.since(0, 49, 0, other));
            Check.noArgument(x, () -> x.since(0, 0, 49, other));
        }
        for (int below : FEW) {
            Check.noArgument(x, () -> x.since(0, below, 0, 0));
            Check.noArgument(x, () -> x.since(0, 0, below, 0));
        }
    }

    private static void rightAndSeen(ShopDesks x) {
        for (int none : Check.outside(0, 3)) {
            Check.noIndex(x, () -> x.right(none, 3, true));
            Check.noIndex(x, () -> x.right(none, 4, true));
            Check.noArgument(x, () -> x.right(3, none, true));
            Check.noArgument(x, () -> x.right(3, none, false));
            Check.noIndex(x, () -> x.seen(none, 0, 0, 0));
            Check.noIndex(x, () -> x.seen(none, 0, 0, 4));
            Check.noArgument(x, () -> x.seen(3, 7, 9, none));
        }
        for (int none : Check.outside(0, 7)) {
            Check.noIndex(x, () -> x.seen(0, none, 0, 0));
            Check.noIndex(x, () -> x.seen(0, none, 0, 4));
        }
        for (int none : Check.outside(0, 9)) {
            Check.noIndex(x, () -> x.seen(0, 0, none, 0));
            Check.noIndex(x, () -> x.seen(0, 0, none, 4));
        }
        Check.noState(x, () -> x.seen(3, 7, 9, 3));
    }

    /** Entry 0 has 6 rows, entry 1 is closed, entry 59 reverses. */
    private static void entryAndRow(ShopDesks x) {
        for (int none : Check.outside(0, 3599)) {
            Check.noArgument(x, () -> x.entry(none));
        }
        Check.noState(x, () -> x.entry(3599));
        for (int none : Check.outside(0, 59)) {
            Check.noIndex(x, () -> x.row(none, 0, 0L));
            Check.noIndex(x, () -> x.row(none, 0, 1000000001L));
        }
        for (int entry : new int[] {0, 1, 59}) {
            for (int none : Check.outside(0, 9)) {
                Check.noIndex(x, () -> x.row(entry, none, 0L));
                Check.noIndex(x, () -> x.row(entry, none, 1000000001L));
            }
            for (long cents : new long[] {-1000000001L, 1000000001L, Long.MIN_VALUE, Long.MAX_VALUE}) {
                Check.noArgument(x, () -> x.row(entry, 9, cents));
            }
            Check.noState(x, () -> x.row(entry, 9, 1000000000L));
        }
    }

    private static void closeAndBalance(ShopDesks x) {
        for (int none : Check.outside(0, 59)) {
            Check.noIndex(x, () -> x.close(none));
        }
        Check.noState(x, () -> x.close(1));
        Check.noState(x, () -> x.close(59));
        for (int none : Check.outside(0, 9)) {
            Check.noIndex(x, () -> x.balance(none, 0));
        }
        for (int none : Check.outside(0, 119)) {
            Check.noArgument(x, () -> x.closeMonth(none));
        }
    }

    private static void reverse(ShopDesks x) {
        for (int none : Check.outside(1, 2)) {
            Check.noIndex(x, () -> x.reverse(none, 0));
            Check.noIndex(x, () -> x.reverse(none, 3600));
        }
        for (int none : Check.outside(0, 3599)) {
            Check.noArgument(x, () -> x.reverse(1, none));
            Check.noArgument(x, () -> x.reverse(2, none));
        }
        Check.noState(x, () -> x.reverse(1, 0));
        Check.noState(x, () -> x.reverse(2, 3599));
    }

    /** The same by the face alone: what is answered next does not tell that a call was refused. */
    private static void refusedCallsLeaveTheNextAnswersAlone() {
        ShopDesks x = new ShopDesks();
        Check.noArgument(x, () -> x.tell(0, 1L, 0, 4, 5L, 0L));
        Check.is(1, x.tell(0, 1L, 0, 0, 5L, 0L));
        Check.noIndex(x, () -> x.set(6));
        Check.is(0, x.set(0));
        Check.noIndex(x, () -> x.join(0, 1));
        Check.is(1, x.mark(0));
        Check.noArgument(x, () -> x.right(0, 4, true));
        Check.is(true, x.right(0, 0, true));
        Check.noIndex(x, () -> x.batch(1, true));
        Check.is(true, x.batch(0, true));
        Check.noArgument(x, () -> x.entry(3600));
        Check.is(0, x.entry(3599));
        Check.noArgument(x, () -> x.row(0, 0, 1000000001L));
        Check.is(1, x.row(0, 0, 0L));
        Check.noIndex(x, () -> x.close(1));
        Check.is(1, x.close(0));
        Check.noArgument(x, () -> x.closeMonth(120));
        Check.noArgument(x, () -> x.reverse(1, 3600));
        Check.is(2, x.reverse(1, 3599));
        Check.is(true, x.closeMonth(0));
    }
}
