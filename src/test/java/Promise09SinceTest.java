/** Promise 9: since. */
final class Promise09SinceTest {
    public static void main(String[] args) {
        tellerNumberAndValue();
        behindAMarkThatWasAsked();
        nothingBehindTheMark();
        nothingInTheSet();
        marksAndPlacesThatAddBeyondAnInt();
        everyTelling();
        noSuchSet();
        markOrKIsBelowZero();
        anotherWhat();
        theExceptionThatIsNamedFirst();
        Check.end();
    }

    /** Set 0 has three tellings, set 1 one of them, set 2 none. */
    private static ShopDesks three() {
        ShopDesks x = new ShopDesks();
        x.tell(5, -2L, 1, ShopDesks.PLACE, Long.MIN_VALUE, 1L);
        x.tell(5, Long.MAX_VALUE, 2, ShopDesks.MARK, 20L, 2L);
        x.tell(3, 7L, 3, ShopDesks.COUNT, Long.MAX_VALUE, 3L);
        x.set(5);
        x.set(3);
        x.set(0);
        x.join(0, 1);
        return x;
    }

    private static void tellerNumberAndValue() {
        ShopDesks x = three();
        telling(x, 0, 0, 5, -2L, Long.MIN_VALUE);
        telling(x, 0, 1, 5, Long.MAX_VALUE, 20L);
        telling(x, 0, 2, 3, 7L, Long.MAX_VALUE);
        telling(x, 1, 0, 5, Long.MAX_VALUE, 20L);
        telling(x, 1, 1, 3, 7L, Long.MAX_VALUE);
        telling(x, 2, 0, 3, 7L, Long.MAX_VALUE);
    }

    private static void telling(ShopDesks x, int mark, int k, long teller, long number, long value) {
        Check.keeps(x, teller, () -> x.since(0, mark, k, 0));
        Check.keeps(x, number, () -> x.since(0, mark, k, 1));
        Check.keeps(x, value, () -> x.since(0, mark, k, 2));
    }

    private static void behindAMarkThatWasAsked() {
        ShopDesks x = three();
        int mark = x.mark(1);
        Check.is(2, x.join(1, 0));
        Check.is(-2, x.since(1, mark, 0, 1));
        Check.is(Long.MAX_VALUE, x.since(1, mark, 1, 1));
        Check.noIndex(x, () -> x.since(1, mark, 2, 1));
        // A batch is for what is seen: here all that came is told.
        x.batch(2, true);
        x.join(2, 0);
        Check.is(3, x.since(2, 0, 2, 0));
    }

    /** "IndexOutOfBoundsException: (..) there are not so many". */
    private static void nothingBehindTheMark() {
        ShopDesks x = three();
        Check.noIndex(x, () -> x.since(0, 0, 3, 0));
        Check.noIndex(x, () -> x.since(0, 1, 2, 0));
        Check.noIndex(x, () -> x.since(0, 2, 1, 0));
        Check.noIndex(x, () -> x.since(0, 3, 0, 0));
        Check.noIndex(x, () -> x.since(0, 4, 0, 0));
        Check.noIndex(x, () -> x.since(0, 300, 0, 0));
        Check.noIndex(x, () -> x.since(1, 1, 0, 0));
        Check.noIndex(x, () -> x.since(1, 0, 1, 0));
    }

    private static void nothingInTheSet() {
        ShopDesks x = three();
        for (int what = 0; what < 3; what++) {
            int of = what;
            Check.noIndex(x, () -> x.since(2, 0, 0, of));
            Check.noIndex(x, () -> x.since(2, 1, 0, of));
            Check.noIndex(x, () -> x.since(2, 0, 1, of));
        }
    }

    /** A sum that wraps as an int would look like one that is there. */
    private static void marksAndPlacesThatAddBeyondAnInt() {
        ShopDesks x = three();
        int most = Integer.MAX_VALUE;
        Check.noIndex(x, () -> x.since(0, most, 0, 0));
        Check.noIndex(x, () -> x.since(0, 0, most, 0));
        Check.noIndex(x, () -> x.since(0, most, 1, 0));
        Check.noIndex(x, () -> x.since(0, 1, most, 0));
        Check.noIndex(x, () -> x.since(0, most, most, 0));
        Check.noArgument(x, () -> x.since(0, Integer.MIN_VALUE, Integer.MIN_VALUE, 0));
        Check.noArgument(x, () -> x.since(0, Integer.MIN_VALUE, -1, 0));
        Check.noArgument(x, () -> x.since(0, -1, Integer.MIN_VALUE, 0));
    }

    private static void everyTelling() {
        ShopDesks x = new ShopDesks();
        for (int i = 0; i < 300; i++) {
            x.tell(1, i, 0, ShopDesks.COUNT, -i, 0L);
        }
        x.set(1);
        for (int mark : new int[] {0, 1, 150, 298, 299}) {
            Check.is(mark, x.since(0, mark, 0, 1));
            Check.is(299, x.since(0, mark, 299 - mark, 1));
            Check.is(-299, x.since(0, mark, 299 - mark, 2));
            Check.noIndex(x, () -> x.since(0, mark, 300 - mark, 1));
        }
        Check.noIndex(x, () -> x.since(0, 300, 0, 1));
    }

    private static void noSuchSet() {
        ShopDesks x = three();
        for (int none : new int[] {-1, 3, 8, Integer.MIN_VALUE, Integer.MAX_VALUE}) {
            Check.noIndex(x, () -> x.since(none, 0, 0, 0));
            Check.noIndex(x, () -> x.since(none, -1, -1, 3));
        }
        ShopDesks y = new ShopDesks();
        Check.noIndex(y, () -> y.since(0, 0, 0, 0));
    }

    /** "IllegalArgumentException: mark or k is below 0". */
    private static void markOrKIsBelowZero() {
        ShopDesks x = three();
        for (int below : new int[] {-1, Integer.MIN_VALUE}) {
            Check.noArgument(x, () -> x.since(0, below, 0, 0));
            Check.noArgument(x, () -> x.since(0, 0, below, 0));
            Check.noArgument(x, () -> x.since(0, below, below, 0));
            // Together they would be the place of one that is there.
            Check.noArgument(x, () -> x.since(0, below, 1, 0));
            Check.noArgument(x, () -> x.since(0, 1, below, 0));
            Check.noArgument(x, () -> x.since(2, below, 0, 0));
            Check.noArgument(x, () -> x.since(2, 0, below, 0));
        }
    }

    private static void anotherWhat() {
        ShopDesks x = three();
        for (int what : Check.outside(0, 2)) {
            Check.noArgument(x, () -> x.since(0, 0, 0, what));
            Check.noArgument(x, () -> x.since(0, 2, 0, what));
        }
    }

    /** "there are not so many" is named before the numbers that are not as said. */
    private static void theExceptionThatIsNamedFirst() {
        ShopDesks x = three();
        for (int what : Check.outside(0, 2)) {
            Check.noIndex(x, () -> x.since(0, 0, 3, what));
            Check.noIndex(x, () -> x.since(0, 3, 0, what));
            Check.noIndex(x, () -> x.since(2, 0, 0, what));
        }
        Check.noIndex(x, () -> x.since(0, -1, 4, 0));
        Check.noIndex(x, () -> x.since(0, 4, -1, 0));
    }
}
