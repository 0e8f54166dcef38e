/** Promise 5: equal. */
final class Promise05EqualTest {
    public static void main(String[] args) {
        itself();
        bothEmpty();
        aPartOfTheOther();
        asManyButOthers();
        lookAlikes();
        cameInAnotherOrder();
        allButOne();
        noSuchSet();
        Check.end();
    }

    private static void both(ShopDesks x, boolean want, int one, int other) {
        Check.keeps(x, want, () -> x.equal(one, other));
        Check.keeps(x, want, () -> x.equal(other, one));
    }

    private static void itself() {
        ShopDesks x = new ShopDesks();
        x.set(0);
        Check.keeps(x, true, () -> x.equal(0, 0));
        x.tell(0, 1L, 0, ShopDesks.COUNT, 1L, 0L);
        x.set(0);
        Check.keeps(x, true, () -> x.equal(1, 1));
    }

    private static void bothEmpty() {
        ShopDesks x = new ShopDesks();
        x.set(0);
        x.set(5);
        both(x, true, 0, 1);
    }

    private static void aPartOfTheOther() {
        ShopDesks x = new ShopDesks();
        x.set(0);
        x.tell(0, 1L, 0, ShopDesks.COUNT, 1L, 0L);
        x.set(0);
        x.tell(0, 2L, 0, ShopDesks.COUNT, 1L, 0L);
        x.set(0);
        x.set(0);
        both(x, false, 0, 1);
        both(x, false, 1, 2);
        both(x, false, 0, 2);
        both(x, true, 2, 3);
    }

    private static void asManyButOthers() {
        ShopDesks x = new ShopDesks();
        for (int teller = 0; teller < 3; teller++) {
            x.tell(teller, teller, 0, ShopDesks.COUNT, 1L, 0L);
            x.set(teller);
        }
        both(x, false, 0, 1);
        x.join(0, 1);
        x.join(1, 2);
        both(x, false, 0, 1);
    }

    /** Of another teller, a telling is another, though all else is the same. */
    private static void lookAlikes() {
        ShopDesks x = new ShopDesks();
        x.tell(0, 1L, 0, ShopDesks.COUNT, 1L, 0L);
        x.tell(1, 1L, 0, ShopDesks.COUNT, 1L, 0L);
        x.tell(1, 2L, 0, ShopDesks.COUNT, 1L, 0L);
        x.set(0);
        x.set(1);
        both(x, false, 0, 1);
    }

    private static void cameInAnotherOrder() {
        ShopDesks x = new ShopDesks();
        for (int i = 0; i < 12; i++) {
            x.tell(i % 3, i, 0, ShopDesks.COUNT, i, 0L);
        }
        for (int teller = 0; teller < 3; teller++) {
            x.set(teller);
        }
        x.join(0, 1);
        x.join(0, 2);
        x.join(1, 2);
        both(x, false, 0, 1);
        x.join(1, 0);
        both(x, true, 0, 1);
        Check.is(0, x.since(0, 0, 0, 0));
        Check.is(1, x.since(1, 0, 0, 0));
    }

    private static void allButOne() {
        ShopDesks x = new ShopDesks();
        for (int i = 0; i < 299; i++) {
            x.tell(0, i, 0, ShopDesks.COUNT, 1L, 0L);
        }
        x.set(0);
        x.tell(1, 0L, 0, ShopDesks.COUNT, 1L, 0L);
        x.set(1);
        x.set(0);
        both(x, true, 0, 2);
        Check.is(1, x.join(0, 1));
        both(x, false, 0, 2);
        Check.is(299, x.join(1, 2));
        both(x, true, 0, 1);
        Check.is(1, x.join(2, 1));
        both(x, true, 0, 2);
    }

    private static void noSuchSet() {
        ShopDesks x = new ShopDesks();
        Check.noIndex(x, () -> x.equal(0, 0));
        x.set(0);
        x.set(0);
        for (int none : new int[] {-1, 2, 8, Integer.MIN_VALUE, Integer.MAX_VALUE}) {
            Check.noIndex(x, () -> x.equal(none, 0));
            Check.noIndex(x, () -> x.equal(0, none));
            Check.noIndex(x, () -> x.equal(none, none));
        }
    }
}
