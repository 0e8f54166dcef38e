/** Promise 10: batch. */
final class Promise10BatchTest {
    public static void main(String[] args) {
        whetherItDid();
        ofEachSetAlone();
        endedAtFirst();
        noSuchSet();
        Check.end();
    }

    /** "begins (open = true) or ends: whether it did": one that is open does not begin, nor one that is not end. */
    private static void whetherItDid() {
        ShopDesks x = new ShopDesks();
        x.set(0);
        Check.keeps(x, false, () -> x.batch(0, false));
        for (int again = 0; again < 3; again++) {
            Check.is(true, x.batch(0, true));
            Check.keeps(x, false, () -> x.batch(0, true));
            Check.is(true, x.batch(0, false));
            Check.keeps(x, false, () -> x.batch(0, false));
        }
    }

    private static void ofEachSetAlone() {
        ShopDesks x = new ShopDesks();
        for (int set = 0; set < 8; set++) {
            x.set(0);
        }
        for (int set = 0; set < 8; set++) {
            Check.is(false, x.batch(set, false));
            Check.is(true, x.batch(set, true));
        }
        for (int set = 7; set >= 0; set--) {
            Check.is(false, x.batch(set, true));
            Check.is(true, x.batch(set, false));
        }
    }

    /** A set that is made while another's batch is open has none. */
    private static void endedAtFirst() {
        ShopDesks x = new ShopDesks();
        x.set(0);
        x.batch(0, true);
        x.set(0);
        Check.is(false, x.batch(1, false));
        x.join(1, 0);
        Check.is(false, x.batch(1, false));
    }

    private static void noSuchSet() {
        ShopDesks x = new ShopDesks();
        Check.noIndex(x, () -> x.batch(0, true));
        Check.noIndex(x, () -> x.batch(0, false));
        x.set(0);
        for (int none : new int[] {-1, 1, 8, Integer.MIN_VALUE, Integer.MAX_VALUE}) {
            Check.noIndex(x, () -> x.batch(none, true));
            Check.noIndex(x, () -> x.batch(none, false));
        }
        Check.is(1, x.set(0));
        Check.is(false, x.batch(1, false));
    }
}
