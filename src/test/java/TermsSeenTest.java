/** Terms: "SEEN by a PERSON 0 .. 3 who has the RIGHT to a KIND (none at first): .." */
final class TermsSeenTest {
    private static final int COUNT = ShopDesks.COUNT, PLACE = ShopDesks.PLACE;
    private static final int MARK = ShopDesks.MARK, SETTLE = ShopDesks.SETTLE;

    public static void main(String[] args) {
        fourPersons();
        noRightAtFirst();
        eachRightAlone();
        atTheGreatestTime();
        nothingIsSeen();
        asWhenTheBatchWasBegun();
        emptyWhenTheBatchWasBegun();
        aBatchWithNothingInIt();
        begunTwice();
        begunAgain();
        conflictAndSettleInABatch();
        wholeAtTheEndOfEachSetsBatch();
        Check.end();
    }

    private static ShopDesks withRights() {
        ShopDesks x = new ShopDesks();
        for (int kind = 0; kind < 4; kind++) {
            x.right(3, kind, true);
        }
        return x;
    }

    /** Tells of thing 4 and makes the next set, which has that telling alone, as each teller tells once. */
    private static void oneOf(ShopDesks x, int teller, int kind, long value, long on) {
        x.tell(teller, 1L, 4, kind, value, on);
        x.set(teller);
    }

    private static void seen(ShopDesks x, int set, int kind, long want) {
        Check.is(want, x.seen(3, set, 4, kind));
    }

    private static void fourPersons() {
        ShopDesks x = new ShopDesks();
        oneOf(x, 0, PLACE, 5, 0);
        for (int person = 0; person < 4; person++) {
            Check.is(true, x.right(person, PLACE, true));
            Check.is(5, x.seen(person, 0, 4, PLACE));
        }
        for (int none : Check.outside(0, 3)) {
            Check.noIndex(x, () -> x.right(none, PLACE, true));
            Check.noIndex(x, () -> x.seen(none, 0, 4, PLACE));
        }
    }

    /** "(none at first)". */
    private static void noRightAtFirst() {
        ShopDesks x = new ShopDesks();
        x.set(0);
        for (int i = 0; i < 16; i++) {
            int person = i / 4;
            int kind = i % 4;
            Check.noState(x, () -> x.seen(person, 0, 0, kind));
            Check.keeps(x, false, () -> x.right(person, kind, false));
        }
    }

    private static void eachRightAlone() {
        for (int given = 0; given < 16; given++) {
            ShopDesks x = new ShopDesks();
            x.set(0);
            Check.is(true, x.right(given / 4, given % 4, true));
            for (int i = 0; i < 16; i++) {
                int person = i / 4;
                int kind = i % 4;
                if (i == given) {
                    Check.is(0, x.seen(person, 0, 0, kind));
                } else {
                    Check.noState(x, () -> x.seen(person, 0, 0, kind));
                }
            }
            Check.is(true, x.right(given / 4, given % 4, false));
            int last = given;
            Check.noState(x, () -> x.seen(last / 4, 0, 0, last % 4));
        }
    }

    /** "what is KNOWN at the greatest time". */
    private static void atTheGreatestTime() {
        for (int kind = 0; kind < 4; kind++) {
            ShopDesks x = withRights();
            oneOf(x, 0, kind, 7, Long.MAX_VALUE);
            seen(x, 0, kind, 7);
            Check.is(0, x.at(0, 4, kind, Long.MAX_VALUE - 1));
        }
    }

    private static void nothingIsSeen() {
        ShopDesks x = withRights();
        x.set(0);
        for (int kind = 0; kind < 4; kind++) {
            seen(x, 0, kind, 0);
        }
        x.batch(0, true);
        for (int kind = 0; kind < 4; kind++) {
            seen(x, 0, kind, 0);
        }
    }

    /** "while a BATCH of a SET is open, what was KNOWN when it was begun": also of a time before. */
    private static void asWhenTheBatchWasBegun() {
        for (int kind = 0; kind < 4; kind++) {
            ShopDesks x = withRights();
            oneOf(x, 0, kind, 7, 5);
            oneOf(x, 1, kind, 8, 5);
            oneOf(x, 2, kind, 9, 1);
            x.batch(0, true);
            x.join(0, 1);
            seen(x, 0, kind, 7);
            x.join(0, 2);
            seen(x, 0, kind, 7);
            Check.is(kind == COUNT ? 24 : kind == MARK ? 0 : 8, x.at(0, 4, kind, Long.MAX_VALUE));
            x.batch(0, false);
            seen(x, 0, kind, kind == COUNT ? 24 : kind == MARK ? 0 : 8);
        }
    }

    private static void emptyWhenTheBatchWasBegun() {
        for (int kind = 0; kind < 4; kind++) {
            ShopDesks x = withRights();
            x.set(5);
            oneOf(x, 0, kind, 7, 0);
            x.batch(0, true);
            x.join(0, 1);
            seen(x, 0, kind, 0);
            Check.is(7, x.at(0, 4, kind, 0L));
            seen(x, 1, kind, 7);
            x.batch(0, false);
            seen(x, 0, kind, 7);
        }
    }

    private static void aBatchWithNothingInIt() {
        ShopDesks x = withRights();
        oneOf(x, 0, COUNT, 7, 0);
        x.batch(0, true);
        seen(x, 0, COUNT, 7);
        x.batch(0, false);
        seen(x, 0, COUNT, 7);
    }

    /** A batch that is open is not begun: what was known at its begin stays. */
    private static void begunTwice() {
        ShopDesks x = withRights();
        oneOf(x, 0, COUNT, 7, 0);
        oneOf(x, 1, COUNT, 8, 0);
        Check.is(true, x.batch(0, true));
        x.join(0, 1);
        Check.keeps(x, false, () -> x.batch(0, true));
        seen(x, 0, COUNT, 7);
        Check.is(true, x.batch(0, false));
        Check.keeps(x, false, () -> x.batch(0, false));
        seen(x, 0, COUNT, 15);
    }

    private static void begunAgain() {
        ShopDesks x = withRights();
        oneOf(x, 0, COUNT, 7, 0);
        oneOf(x, 1, COUNT, 8, 0);
        oneOf(x, 2, COUNT, 9, 0);
        x.batch(0, true);
        x.join(0, 1);
        x.batch(0, false);
        Check.is(true, x.batch(0, true));
        seen(x, 0, COUNT, 15);
        x.join(0, 2);
        seen(x, 0, COUNT, 15);
        x.batch(0, false);
        seen(x, 0, COUNT, 24);
    }

    private static void conflictAndSettleInABatch() {
        ShopDesks x = withRights();
        oneOf(x, 0, MARK, 7, 3);
        oneOf(x, 1, MARK, 8, 3);
        oneOf(x, 2, SETTLE, 9, 3);
        x.batch(0, true);
        x.join(0, 1);
        // The conflict is there for all who ask for conflicts, and not seen yet.
        Check.is(4, x.conflict(0, 0));
        seen(x, 0, MARK, 7);
        x.batch(0, false);
        seen(x, 0, MARK, 0);
        x.batch(0, true);
        x.join(0, 2);
        Check.is(ShopDesks.NONE, x.conflict(0, 0));
        seen(x, 0, MARK, 0);
        seen(x, 0, SETTLE, 0);
        x.batch(0, false);
        seen(x, 0, MARK, 9);
        seen(x, 0, SETTLE, 9);
    }

    private static void wholeAtTheEndOfEachSetsBatch() {
        ShopDesks x = withRights();
        for (int teller = 0; teller < 6; teller++) {
            oneOf(x, teller, COUNT, 1, 0);
        }
        x.set(0);
        x.set(1);
        for (int set = 0; set < 8; set++) {
            Check.is(true, x.batch(set, true));
        }
        for (int set = 0; set < 8; set++) {
            for (int other = 0; other < 8; other++) {
                x.join(set, other);
            }
            seen(x, set, COUNT, 1);
        }
        for (int set = 0; set < 8; set++) {
            Check.is(true, x.batch(set, false));
            seen(x, set, COUNT, 6);
            seen(x, (set + 1) % 8, COUNT, set == 7 ? 6 : 1);
        }
    }
}
