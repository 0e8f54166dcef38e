/** Terms: "KNOWN of a THING in a SET at a time, by its TELLINGS of the KIND whose ON is not behind it: .." */
final class TermsKnownTest {
    private static final int COUNT = ShopDesks.COUNT, PLACE = ShopDesks.PLACE;
    private static final int MARK = ShopDesks.MARK, SETTLE = ShopDesks.SETTLE;
    private static final long FIRST = Long.MIN_VALUE, LAST = Long.MAX_VALUE;

    public static void main(String[] args) {
        nothingIsKnown();
        onIsNotBehindTheTime();
        ofTheThingAndTheKindAlone();
        ofTheSetAlone();
        sumsWrap();
        sumsThatComeBack();
        greatestOn();
        greatestTellerOfOneOn();
        greatestNumberOfOneTeller();
        marksOfOneValue();
        marksConflict();
        settledOnTheLastMarksTime();
        settledByTheLatest();
        settledAtOneTimeAndNotAtAnother();
        settledWithoutAMark();
        settledToNothing();
        Check.end();
    }

    /** One telling of thing 4, as teller 0 tells it. */
    private record Told(int kind, long value, long on) {
    }

    private static Told of(int kind, long value, long on) {
        return new Told(kind, value, on);
    }

    /** Set 0 of an object that was told these. */
    private static ShopDesks told(Told... all) {
        ShopDesks x = new ShopDesks();
        for (int i = 0; i < all.length; i++) {
            x.tell(0, i, 4, all[i].kind, all[i].value, all[i].on);
        }
        x.set(0);
        return x;
    }

    private static void known(ShopDesks x, int kind, long on, long want) {
        Check.is(want, x.at(0, 4, kind, on));
    }

    private static void nothingIsKnown() {
        ShopDesks x = told();
        for (int kind = 0; kind < 4; kind++) {
            known(x, kind, FIRST, 0);
            known(x, kind, 0, 0);
            known(x, kind, LAST, 0);
        }
    }

    /** "whose ON is not behind it": the time itself is in, the one before it is not, to both ends. */
    private static void onIsNotBehindTheTime() {
        for (int kind = 0; kind < 4; kind++) {
            for (long on : new long[] {FIRST + 1, -1, 0, 1, 1L << 32, LAST - 1}) {
                ShopDesks x = told(of(kind, 7, on));
                known(x, kind, FIRST, 0);
                known(x, kind, on - 1, 0);
                known(x, kind, on, 7);
                known(x, kind, on + 1, 7);
                known(x, kind, LAST, 7);
            }
            known(told(of(kind, 7, FIRST)), kind, FIRST, 7);
            ShopDesks y = told(of(kind, 7, LAST));
            known(y, kind, LAST - 1, 0);
            known(y, kind, LAST, 7);
        }
    }

    private static void ofTheThingAndTheKindAlone() {
        for (int kind = 0; kind < 4; kind++) {
            ShopDesks x = new ShopDesks();
            for (int i = 0; i < 40; i++) {
                if (i % 10 != 4 || i / 10 != kind) {
                    x.tell(0, i, i % 10, i / 10, 1 + i, 1L);
                }
            }
            x.set(0);
            // A mark is known by settles too: that is their use.
            known(x, kind, LAST, kind == MARK ? 35 : 0);
        }
    }

    private static void ofTheSetAlone() {
        for (int kind = 0; kind < 4; kind++) {
            ShopDesks x = told(of(kind, 7, 1));
            x.tell(0, 9L, 4, kind, 8L, 2L);
            x.tell(1, 9L, 4, kind, 9L, 3L);
            x.set(0);
            x.set(1);
            known(x, kind, LAST, 7);
        }
    }

    /** "COUNT: the sum of all values", "(Sums wrap.)" */
    private static void sumsWrap() {
        ShopDesks x = told(of(COUNT, LAST, 1), of(COUNT, 1, 2), of(COUNT, LAST, 3), of(COUNT, 1, 4));
        known(x, COUNT, 1, LAST);
        known(x, COUNT, 2, FIRST);
        known(x, COUNT, 3, -1);
        known(x, COUNT, 4, 0);
        ShopDesks y = told(of(COUNT, FIRST, 1), of(COUNT, -1, 2), of(COUNT, FIRST, 3), of(COUNT, FIRST, 4));
        known(y, COUNT, 1, FIRST);
        known(y, COUNT, 2, LAST);
        known(y, COUNT, 3, -1);
        known(y, COUNT, 4, LAST);
        y.right(0, COUNT, true);
        Check.is(LAST, y.seen(0, 0, 4, COUNT));
        // A sum beyond an int is not beyond a long.
        known(told(of(COUNT, Integer.MAX_VALUE, 0), of(COUNT, 1, 0)), COUNT, 0, 1L << 31);
    }

    private static void sumsThatComeBack() {
        ShopDesks x = told(of(COUNT, 5, 1), of(COUNT, -5, 2), of(COUNT, -5, 3), of(COUNT, 0, 4));
        known(x, COUNT, 1, 5);
        known(x, COUNT, 2, 0);
        known(x, COUNT, 3, -5);
        known(x, COUNT, 4, -5);
    }

    /** "PLACE: the value of the one with the greatest ON", "SETTLE: as for PLACE". */
    private static void greatestOn() {
        for (int kind : new int[] {PLACE, SETTLE}) {
            ShopDesks x = told(of(kind, 1, 5), of(kind, 2, FIRST), of(kind, 3, -5), of(kind, 0, 7), of(kind, 4, LAST));
            known(x, kind, FIRST, 2);
            known(x, kind, -6, 2);
            known(x, kind, -5, 3);
            known(x, kind, 5, 1);
            known(x, kind, 6, 1);
            known(x, kind, 7, 0);
            known(x, kind, LAST, 4);
            known(told(of(kind, FIRST, 0)), kind, 0, FIRST);
            known(told(of(kind, LAST, 0)), kind, 0, LAST);
        }
    }

    /** "(of several the greatest teller, then ..)": in whatever order they come. */
    private static void greatestTellerOfOneOn() {
        for (int kind : new int[] {PLACE, SETTLE}) {
            ShopDesks x = new ShopDesks();
            for (int teller = 0; teller < 6; teller++) {
                x.tell(teller, -teller, 4, kind, 10 + teller, 3L);
            }
            for (int teller : new int[] {3, 0, 5, 1}) {
                x.set(teller);
            }
            known(x, kind, 3, 13);
            x.join(0, 1);
            known(x, kind, 3, 13);
            x.join(0, 2);
            known(x, kind, 3, 15);
            x.join(0, 3);
            known(x, kind, 3, 15);
        }
    }

    /** "then the greatest NUMBER)": from the smallest long to the greatest. */
    private static void greatestNumberOfOneTeller() {
        for (int kind : new int[] {PLACE, SETTLE}) {
            ShopDesks x = new ShopDesks();
            long[] numbers = {-1, FIRST, 0, 1L << 32, LAST};
            long[] known = {-1, -1, 0, 1L << 32, LAST};
            for (int i = 0; i < numbers.length; i++) {
                x.tell(1, numbers[i], 4, kind, numbers[i], 3L);
                x.set(1);
                Check.is(known[i], x.at(i, 4, kind, 3L));
            }
            // Joined to the first set in the order in which they were told, the greatest still holds.
            for (int i = 1; i < numbers.length; i++) {
                x.join(0, i);
                Check.is(known[i], x.at(0, 4, kind, 3L));
            }
        }
    }

    /** "else the value that all MARKS have, if it is one". */
    private static void marksOfOneValue() {
        ShopDesks x = told(of(MARK, -6, 2), of(MARK, -6, 2), of(MARK, -6, 1), of(MARK, -6, LAST));
        known(x, MARK, 0, 0);
        known(x, MARK, 1, -6);
        known(x, MARK, 2, -6);
        known(x, MARK, LAST, -6);
        known(told(of(MARK, FIRST, 0)), MARK, 0, FIRST);
        known(told(of(MARK, 0, 0), of(MARK, 0, 0)), MARK, 0, 0);
    }

    /** "0 if there is none, or they CONFLICT: some have unlike values", in any place among them. */
    private static void marksConflict() {
        for (int unlike = 0; unlike < 3; unlike++) {
            Told[] three = {of(MARK, 6, 1), of(MARK, 6, 1), of(MARK, 6, 1)};
            three[unlike] = of(MARK, 7, 1);
            ShopDesks x = told(three);
            known(x, MARK, 1, 0);
            Check.is(4, x.conflict(0, 0));
        }
        ShopDesks y = told(of(MARK, 6, 1), of(MARK, 6 + (1L << 32), 2), of(MARK, 6, 3));
        known(y, MARK, 1, 6);
        known(y, MARK, 2, 0);
        known(y, MARK, 3, 0);
        known(told(of(MARK, FIRST, 1), of(MARK, LAST, 1)), MARK, 1, 0);
        known(told(of(MARK, 0, 1), of(MARK, 3, 1)), MARK, 1, 0);
    }

    /** "SETTLE (..) whose ON is not before any MARK's": at the last mark's time it is not, just before it is. */
    private static void settledOnTheLastMarksTime() {
        for (long on : new long[] {FIRST + 1, -1, 0, 1L << 32, LAST}) {
            ShopDesks before = told(of(MARK, 1, FIRST), of(MARK, 2, on), of(SETTLE, 9, on - 1));
            known(before, MARK, LAST, 0);
            Check.is(4, before.conflict(0, 0));
            ShopDesks at = told(of(MARK, 1, FIRST), of(MARK, 2, on), of(SETTLE, 9, on));
            known(at, MARK, LAST, 9);
            Check.is(ShopDesks.NONE, at.conflict(0, 0));
        }
        ShopDesks behind = told(of(SETTLE, 9, LAST), of(MARK, 1, 0), of(MARK, 2, LAST - 1));
        known(behind, MARK, LAST, 9);
        // By the time alone: a greater teller and number make no mark later than the settle.
        ShopDesks x = told(of(SETTLE, 9, 3), of(MARK, 1, 3));
        x.tell(5, LAST, 4, MARK, 2L, 3L);
        x.set(5);
        x.join(0, 1);
        known(x, MARK, 3, 9);
    }

    /** "the value of the latest SETTLE (as for PLACE)": by ON, teller and NUMBER. */
    private static void settledByTheLatest() {
        ShopDesks x = told(of(MARK, 1, 1), of(SETTLE, 20, 6), of(SETTLE, 30, 5), of(SETTLE, 40, 0));
        known(x, MARK, 5, 30);
        known(x, MARK, LAST, 20);
        x.tell(1, -5L, 4, SETTLE, 50L, 6L);
        x.tell(1, -4L, 4, SETTLE, 60L, 6L);
        x.tell(1, 8L, 4, SETTLE, 70L, 5L);
        x.set(1);
        x.join(0, 1);
        known(x, MARK, 4, 1);
        known(x, MARK, 5, 70);
        known(x, MARK, 6, 60);
        known(x, SETTLE, 6, 60);
        known(x, SETTLE, 0, 40);
    }

    private static void settledAtOneTimeAndNotAtAnother() {
        ShopDesks x = told(of(MARK, 1, 1), of(MARK, 2, 2), of(SETTLE, 9, 3), of(MARK, 2, 4), of(SETTLE, 8, 5));
        known(x, MARK, 1, 1);
        known(x, MARK, 2, 0);
        known(x, MARK, 3, 9);
        known(x, MARK, 4, 0);
        known(x, MARK, 5, 8);
        // Marks of one value count again, once one of them is behind the settle.
        ShopDesks y = told(of(MARK, 1, 1), of(SETTLE, 9, 2), of(MARK, 1, 3));
        known(y, MARK, 2, 9);
        known(y, MARK, 3, 1);
        known(y, SETTLE, 3, 9);
    }

    /** Without a mark there is none that the settle is before. */
    private static void settledWithoutAMark() {
        ShopDesks x = told(of(SETTLE, 9, 2), of(MARK, 3, 4));
        known(x, MARK, 1, 0);
        known(x, MARK, 2, 9);
        known(x, MARK, 3, 9);
        known(x, MARK, 4, 3);
        Check.is(ShopDesks.NONE, x.conflict(0, 0));
    }

    private static void settledToNothing() {
        ShopDesks x = told(of(MARK, 1, 1), of(MARK, 2, 1), of(SETTLE, 0, 1));
        known(x, MARK, 1, 0);
        Check.is(ShopDesks.NONE, x.conflict(0, 0));
    }
}
