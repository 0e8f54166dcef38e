/** Terms: "SETS 0 .. 7 (as they are made) have some of the TELLINGS, in the order in which they came. .." */
final class TermsSetsTest {
    public static void main(String[] args) {
        eightSets();
        onlySetsThatWereMade();
        nothingInASet();
        allOfOneTellerByNumber();
        soFar();
        inTheOrderInWhichTheyCame();
        Check.end();
    }

    /** "SETS 0 .. 7 (as they are made)": the eighth is made, the ninth is not, also of one teller. */
    private static void eightSets() {
        ShopDesks x = new ShopDesks();
        for (int set = 0; set < 8; set++) {
            Check.is(set, x.set(set % 6));
        }
        for (int teller = 0; teller < 6; teller++) {
            int of = teller;
            Check.noState(x, () -> x.set(of));
        }
        ShopDesks y = new ShopDesks();
        for (int set = 0; set < 8; set++) {
            Check.is(set, y.set(4));
        }
        Check.noState(y, () -> y.set(4));
        Check.is(0, y.mark(7));
    }

    /** A set is there from the call that makes it, and not before. */
    private static void onlySetsThatWereMade() {
        ShopDesks x = new ShopDesks();
        for (int set = 0; set < 8; set++) {
            int next = set;
            noSuchSet(x, next);
            x.set(0);
            Check.is(0, x.mark(next));
        }
        noSuchSet(x, 8);
        noSuchSet(x, -1);
    }

    private static void noSuchSet(ShopDesks x, int none) {
        x.right(0, 0, true);
        Check.noIndex(x, () -> x.join(none, 0));
        Check.noIndex(x, () -> x.join(0, none));
        Check.noIndex(x, () -> x.equal(none, 0));
        Check.noIndex(x, () -> x.equal(0, none));
        Check.noIndex(x, () -> x.at(none, 0, 0, 0L));
        Check.noIndex(x, () -> x.conflict(none, 0));
        Check.noIndex(x, () -> x.mark(none));
        Check.noIndex(x, () -> x.since(none, 0, 0, 0));
        Check.noIndex(x, () -> x.batch(none, true));
        Check.noIndex(x, () -> x.batch(none, false));
        Check.noIndex(x, () -> x.seen(0, none, 0, 0));
    }

    /** An empty set is a set: it joins, is joined, is equal to another empty one, and nothing is known in it. */
    private static void nothingInASet() {
        ShopDesks x = new ShopDesks();
        x.tell(1, 1L, 3, ShopDesks.COUNT, 5L, 0L);
        x.set(0);
        x.set(0);
        x.set(1);
        x.right(0, ShopDesks.COUNT, true);
        Check.keeps(x, 0, () -> x.mark(0));
        Check.keeps(x, 0, () -> x.join(0, 0));
        Check.keeps(x, 0, () -> x.join(0, 1));
        Check.keeps(x, 0, () -> x.join(2, 0));
        Check.keeps(x, true, () -> x.equal(0, 1));
        Check.keeps(x, false, () -> x.equal(0, 2));
        Check.keeps(x, false, () -> x.equal(2, 0));
        for (int kind = 0; kind < 4; kind++) {
            int of = kind;
            Check.keeps(x, 0, () -> x.at(0, 3, of, Long.MAX_VALUE));
        }
        Check.keeps(x, ShopDesks.NONE, () -> x.conflict(0, 0));
        Check.noIndex(x, () -> x.since(0, 0, 0, 0));
        Check.keeps(x, 0, () -> x.seen(0, 0, 3, ShopDesks.COUNT));
        Check.is(1, x.join(0, 2));
        Check.is(5, x.at(0, 3, ShopDesks.COUNT, 0L));
    }

    /** "A new one has all of one teller so far, by their NUMBERS": up to 300, told the other way round. */
    private static void allOfOneTellerByNumber() {
        ShopDesks x = new ShopDesks();
        for (int i = 0; i < 300; i++) {
            x.tell(2, 149 - i, 0, ShopDesks.COUNT, 2 * i, 0L);
        }
        x.set(2);
        Check.is(300, x.mark(0));
        for (int k = 0; k < 100; k++) {
            Check.is(k * 3 - 150, x.since(0, k, 2 * k, 1));
            Check.is(2 * (299 - 3 * k), x.since(0, 3 * k, 0, 2));
        }
        Check.is(149, x.since(0, 299, 0, 1));
        Check.is(149, x.since(0, 0, 299, 1));
        Check.noIndex(x, () -> x.since(0, 300, 0, 1));
        Check.noIndex(x, () -> x.since(0, 0, 300, 1));
    }

    private static void soFar() {
        ShopDesks x = new ShopDesks();
        x.set(0);
        x.tell(0, 2L, 1, ShopDesks.COUNT, 10L, 0L);
        x.set(0);
        x.tell(0, 1L, 1, ShopDesks.COUNT, 100L, 0L);
        x.set(0);
        Check.is(0, x.mark(0));
        Check.is(1, x.mark(1));
        Check.is(2, x.mark(2));
        Check.is(10, x.at(1, 1, ShopDesks.COUNT, 0L));
        Check.is(110, x.at(2, 1, ShopDesks.COUNT, 0L));
        // What was told later comes behind what was there, though its number is smaller.
        Check.is(1, x.join(1, 2));
        Check.is(2, x.since(1, 0, 0, 1));
        Check.is(1, x.since(1, 0, 1, 1));
        Check.is(1, x.since(2, 0, 0, 1));
        Check.is(2, x.since(2, 0, 1, 1));
    }

    private static void inTheOrderInWhichTheyCame() {
        ShopDesks x = new ShopDesks();
        for (int i = 0; i < 12; i++) {
            x.tell(i % 3, 100 - i, 0, ShopDesks.COUNT, i, 0L);
        }
        x.set(2);
        x.set(0);
        x.set(1);
        x.join(0, 2);
        x.join(1, 0);
        values(x, 0, 11, 8, 5, 2, 10, 7, 4, 1);
        values(x, 1, 9, 6, 3, 0, 11, 8, 5, 2, 10, 7, 4, 1);
        values(x, 2, 10, 7, 4, 1);
    }

    private static void values(ShopDesks x, int set, long... values) {
        Check.is(values.length, x.mark(set));
        for (int k = 0; k < values.length; k++) {
            Check.is(values[k], x.since(set, 0, k, 2));
        }
    }
}
