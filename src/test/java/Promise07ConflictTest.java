/** Promise 7: conflict. */
final class Promise07ConflictTest {
    public static void main(String[] args) {
        byTheirNumbers();
        notSoMany();
        allThings();
        eachThingAlone();
        atTheGreatestTime();
        settled();
        onlyMarks();
        noSuchSet();
        kIsBelowZero();
        Check.end();
    }

    /** Two marks of a thing, as teller 0. */
    private static void marks(ShopDesks x, int thing, long one, long other, long on) {
        x.tell(0, thing * 2, thing, ShopDesks.MARK, one, 1L);
        x.tell(0, thing * 2 + 1, thing, ShopDesks.MARK, other, on);
    }

    private static void byTheirNumbers() {
        ShopDesks x = new ShopDesks();
        marks(x, 9, 1, 2, 5);
        marks(x, 0, 1, 2, 5);
        marks(x, 5, 1, 1, 5);
        marks(x, 3, 1, 2, 5);
        x.set(0);
        Check.keeps(x, 0, () -> x.conflict(0, 0));
        Check.keeps(x, 3, () -> x.conflict(0, 1));
        Check.keeps(x, 9, () -> x.conflict(0, 2));
        Check.keeps(x, ShopDesks.NONE, () -> x.conflict(0, 3));
    }

    /** "NONE if there are not so many": none at all, just one too few, and far too few. */
    private static void notSoMany() {
        ShopDesks x = new ShopDesks();
        x.set(0);
        marks(x, 4, 1, 1, 1);
        x.set(0);
        marks(x, 6, 1, 2, 1);
        x.set(0);
        for (int set = 0; set < 3; set++) {
            Check.is(set == 2 ? 6 : ShopDesks.NONE, x.conflict(set, 0));
            Check.is(ShopDesks.NONE, x.conflict(set, 1));
            Check.is(ShopDesks.NONE, x.conflict(set, 10));
            Check.is(ShopDesks.NONE, x.conflict(set, Integer.MAX_VALUE));
        }
    }

    private static void allThings() {
        ShopDesks x = new ShopDesks();
        for (int thing = 0; thing < 10; thing++) {
            marks(x, thing, 1, 2, 1);
        }
        x.set(0);
        for (int k = 0; k < 10; k++) {
            Check.is(k, x.conflict(0, k));
        }
        Check.is(ShopDesks.NONE, x.conflict(0, 10));
    }

    private static void eachThingAlone() {
        for (int thing = 0; thing < 10; thing++) {
            ShopDesks x = new ShopDesks();
            marks(x, thing, 1, 2, 1);
            x.set(0);
            Check.is(thing, x.conflict(0, 0));
            Check.is(ShopDesks.NONE, x.conflict(0, 1));
        }
    }

    private static void atTheGreatestTime() {
        ShopDesks x = new ShopDesks();
        marks(x, 2, 1, 2, Long.MAX_VALUE);
        x.set(0);
        Check.is(1, x.at(0, 2, ShopDesks.MARK, Long.MAX_VALUE - 1));
        Check.is(2, x.conflict(0, 0));
        x.tell(1, 0L, 2, ShopDesks.SETTLE, 3L, Long.MAX_VALUE - 1);
        x.set(1);
        x.join(0, 1);
        Check.is(2, x.conflict(0, 0));
        x.tell(2, 0L, 2, ShopDesks.SETTLE, 3L, Long.MAX_VALUE);
        x.set(2);
        x.join(0, 2);
        Check.is(ShopDesks.NONE, x.conflict(0, 0));
    }

    private static void settled() {
        ShopDesks x = new ShopDesks();
        marks(x, 0, 1, 2, 5);
        marks(x, 3, 1, 2, 5);
        marks(x, 7, 1, 2, 5);
        x.tell(1, 0L, 0, ShopDesks.SETTLE, 2L, 4L);
        x.tell(1, 1L, 3, ShopDesks.SETTLE, 2L, 5L);
        x.tell(1, 2L, 1, ShopDesks.SETTLE, 2L, 9L);
        x.set(0);
        x.set(1);
        Check.is(3, x.conflict(0, 1));
        x.join(0, 1);
        Check.is(0, x.conflict(0, 0));
        Check.is(7, x.conflict(0, 1));
        Check.is(ShopDesks.NONE, x.conflict(0, 2));
        // A mark behind the settle, and they conflict again.
        x.tell(2, 0L, 3, ShopDesks.MARK, 2L, 6L);
        x.set(2);
        x.join(0, 2);
        Check.is(3, x.conflict(0, 1));
    }

    private static void onlyMarks() {
        for (int kind : new int[] {ShopDesks.COUNT, ShopDesks.PLACE, ShopDesks.SETTLE}) {
            ShopDesks x = new ShopDesks();
            x.tell(0, 0L, 4, kind, 1L, 0L);
            x.tell(0, 1L, 4, kind, 2L, 0L);
            x.tell(0, 2L, 4, ShopDesks.MARK, 3L, 1L);
            x.tell(0, 3L, 5, ShopDesks.MARK, 4L, 1L);
            x.set(0);
            Check.is(ShopDesks.NONE, x.conflict(0, 0));
        }
    }

    private static void noSuchSet() {
        ShopDesks x = new ShopDesks();
        Check.noIndex(x, () -> x.conflict(0, 0));
        x.set(0);
        for (int none : new int[] {-1, 1, 8, Integer.MIN_VALUE, Integer.MAX_VALUE}) {
            Check.noIndex(x, () -> x.conflict(none, 0));
            Check.noIndex(x, () -> x.conflict(none, -1));
        }
    }

    /** "IllegalArgumentException: k is below 0": whether there are conflicts or not. */
    private static void kIsBelowZero() {
        ShopDesks x = new ShopDesks();
        x.set(0);
        marks(x, 0, 1, 2, 5);
        x.set(0);
        for (int set = 0; set < 2; set++) {
            int of = set;
            Check.noArgument(x, () -> x.conflict(of, -1));
            Check.noArgument(x, () -> x.conflict(of, Integer.MIN_VALUE));
        }
    }
}
