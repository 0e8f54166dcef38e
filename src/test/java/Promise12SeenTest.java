/** Promise 12: seen. */
final class Promise12SeenTest {
    private static final int COUNT = ShopDesks.COUNT, PLACE = ShopDesks.PLACE;
    private static final int MARK = ShopDesks.MARK, SETTLE = ShopDesks.SETTLE;

    public static void main(String[] args) {
        atTheGreatestTime();
        wholeBatch();
        nothingBehindTheBatch();
        noSuchPersonSetOrThing();
        anotherKind();
        noRight();
        Check.end();
    }

    private static ShopDesks withRights() {
        ShopDesks x = new ShopDesks();
        for (int kind = 0; kind < 4; kind++) {
            x.right(2, kind, true);
        }
        return x;
    }

    private static void seen(ShopDesks x, int set, long count, long place, long mark, long settle) {
        Check.is(count, x.seen(2, set, 6, COUNT));
        Check.is(place, x.seen(2, set, 6, PLACE));
        Check.is(mark, x.seen(2, set, 6, MARK));
        Check.is(settle, x.seen(2, set, 6, SETTLE));
    }

    private static void known(ShopDesks x, int set, long count, long place, long mark, long settle) {
        Check.is(count, x.at(set, 6, COUNT, Long.MAX_VALUE));
        Check.is(place, x.at(set, 6, PLACE, Long.MAX_VALUE));
        Check.is(mark, x.at(set, 6, MARK, Long.MAX_VALUE));
        Check.is(settle, x.at(set, 6, SETTLE, Long.MAX_VALUE));
    }

    private static void atTheGreatestTime() {
        ShopDesks x = withRights();
        x.tell(0, 1L, 6, COUNT, 5L, 0L);
        x.tell(0, 2L, 6, COUNT, 6L, Long.MAX_VALUE);
        x.tell(0, 3L, 6, PLACE, 7L, Long.MAX_VALUE);
        x.tell(0, 4L, 6, MARK, 8L, Long.MAX_VALUE);
        x.set(0);
        x.set(1);
        seen(x, 0, 11, 7, 8, 0);
        seen(x, 1, 0, 0, 0, 0);
        Check.is(0, x.seen(2, 0, 5, COUNT));
        x.right(2, PLACE, false);
        Check.noState(x, () -> x.seen(2, 0, 6, PLACE));
        Check.is(11, x.seen(2, 0, 6, COUNT));
    }

    private static void wholeBatch() {
        ShopDesks x = withRights();
        x.tell(0, 1L, 6, COUNT, 5L, 1L);
        x.tell(0, 2L, 6, PLACE, 6L, 1L);
        x.tell(0, 3L, 6, MARK, 7L, 1L);
        x.set(0);
        x.tell(1, 1L, 6, COUNT, 50L, 0L);
        x.tell(1, 2L, 6, PLACE, 60L, 2L);
        x.tell(1, 3L, 6, MARK, 70L, 2L);
        x.set(1);
        x.tell(2, 1L, 6, SETTLE, 700L, 9L);
        x.set(2);
        x.set(3);
        Check.is(true, x.batch(0, true));
        Check.is(true, x.batch(3, true));
        x.join(0, 1);
        seen(x, 0, 5, 6, 7, 0);
        known(x, 0, 55, 60, 0, 0);
        Check.is(6, x.conflict(0, 0));
        Check.is(70, x.since(0, 3, 2, 2));
        Check.is(false, x.batch(0, true));
        seen(x, 0, 5, 6, 7, 0);
        // Another set gets all that the set has, seen or not, and is seen by its own batch.
        Check.is(6, x.join(2, 0));
        seen(x, 2, 55, 60, 700, 700);
        x.join(3, 2);
        seen(x, 3, 0, 0, 0, 0);
        Check.is(true, x.batch(0, false));
        seen(x, 0, 55, 60, 0, 0);
        Check.is(true, x.batch(0, true));
        x.join(0, 2);
        seen(x, 0, 55, 60, 0, 0);
        Check.is(true, x.batch(0, false));
        seen(x, 0, 55, 60, 700, 700);
        Check.is(true, x.batch(3, false));
        seen(x, 3, 55, 60, 700, 700);
    }

    /** For each kind, the first telling that comes behind the batch's begin is one of that kind. */
    private static void nothingBehindTheBatch() {
        for (int kind = 0; kind < 4; kind++) {
            ShopDesks x = withRights();
            x.tell(0, 1L, 6, kind, 5L, 1L);
            x.tell(1, 1L, 6, kind, 9L, 2L);
            x.set(0);
            x.set(1);
            x.batch(0, true);
            Check.is(1, x.join(0, 1));
            Check.is(5, x.seen(2, 0, 6, kind));
            x.batch(0, false);
            Check.is(kind == COUNT ? 14 : kind == MARK ? 0 : 9, x.seen(2, 0, 6, kind));
        }
    }

    /** Person 2 has all rights, person 0 none. */
    private static void noSuchPersonSetOrThing() {
        ShopDesks x = withRights();
        Check.noIndex(x, () -> x.seen(2, 0, 0, 0));
        x.set(0);
        for (int none : Check.outside(0, 3)) {
            Check.noIndex(x, () -> x.seen(none, 0, 0, 0));
            Check.noIndex(x, () -> x.seen(none, 0, 0, 4));
        }
        for (int none : new int[] {-1, 1, 8, Integer.MIN_VALUE, Integer.MAX_VALUE}) {
            Check.noIndex(x, () -> x.seen(2, none, 0, 0));
            Check.noIndex(x, () -> x.seen(0, none, 0, 4));
            Check.noIndex(x, () -> x.seen(0, none, 0, 0));
        }
        for (int none : Check.outside(0, 9)) {
            Check.noIndex(x, () -> x.seen(2, 0, none, 0));
            Check.noIndex(x, () -> x.seen(0, 0, none, 4));
            Check.noIndex(x, () -> x.seen(0, 0, none, 0));
        }
    }

    /** "IllegalArgumentException: another kind": with rights or without. */
    private static void anotherKind() {
        ShopDesks x = withRights();
        x.set(0);
        for (int none : Check.outside(0, 3)) {
            Check.noArgument(x, () -> x.seen(2, 0, 0, none));
            Check.noArgument(x, () -> x.seen(0, 0, 0, none));
        }
    }

    /** "IllegalStateException: no RIGHT": never had, of another person, of another kind, or taken again. */
    private static void noRight() {
        ShopDesks x = new ShopDesks();
        x.set(0);
        x.right(2, PLACE, true);
        Check.is(0, x.seen(2, 0, 0, PLACE));
        Check.noState(x, () -> x.seen(0, 0, 9, SETTLE));
        Check.noState(x, () -> x.seen(1, 0, 0, PLACE));
        Check.noState(x, () -> x.seen(3, 0, 0, PLACE));
        Check.noState(x, () -> x.seen(2, 0, 0, COUNT));
        Check.noState(x, () -> x.seen(2, 0, 0, MARK));
        Check.noState(x, () -> x.seen(2, 0, 0, SETTLE));
        x.right(2, PLACE, false);
        Check.noState(x, () -> x.seen(2, 0, 0, PLACE));
    }
}
