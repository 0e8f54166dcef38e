/** Promise 2: tell. */
final class Promise02TellTest {
    public static void main(String[] args) {
        ordinary();
        toldBefore();
        whateverItWas();
        toldBeforeOfTheEnds();
        noSuchTellerOrThing();
        anotherKind();
        thereAreThreeHundred();
        Check.end();
    }

    private static void ordinary() {
        ShopDesks x = new ShopDesks();
        Check.is(1, x.tell(0, 5L, 1, ShopDesks.COUNT, 10L, 3L));
        Check.is(1, x.tell(1, 5L, 1, ShopDesks.COUNT, 20L, 3L));
        Check.is(1, x.tell(0, 6L, 1, ShopDesks.COUNT, 30L, 3L));
        x.set(0);
        Check.is(2, x.mark(0));
        Check.is(40, x.at(0, 1, ShopDesks.COUNT, 3L));
        Check.is(1, x.tell(0, 7L, 1, ShopDesks.COUNT, 1L, 3L));
        Check.is(2, x.mark(0));
    }

    /** "0 if the teller told that NUMBER before (..; nothing is changed)". */
    private static void toldBefore() {
        ShopDesks x = new ShopDesks();
        x.tell(0, 5L, 1, ShopDesks.COUNT, 10L, 3L);
        x.tell(0, 6L, 1, ShopDesks.COUNT, 10L, 3L);
        x.tell(0, 7L, 1, ShopDesks.COUNT, 10L, 3L);
        for (long number = 5; number <= 7; number++) {
            long told = number;
            Check.keeps(x, 0, () -> x.tell(0, told, 1, ShopDesks.COUNT, 10L, 3L));
            Check.is(1, x.tell(1, told, 1, ShopDesks.COUNT, 10L, 3L));
        }
        x.set(0);
        Check.is(3, x.mark(0));
        Check.is(30, x.at(0, 1, ShopDesks.COUNT, 3L));
        // Also when a set has it.
        Check.keeps(x, 0, () -> x.tell(0, 5L, 1, ShopDesks.COUNT, 10L, 3L));
    }

    /** "(whatever it was; ..)": of another thing, kind, value or time, what was told first stays. */
    private static void whateverItWas() {
        for (int kind = 0; kind < 4; kind++) {
            ShopDesks x = new ShopDesks();
            int first = kind;
            x.tell(0, 5L, 1, kind, 10L, 3L);
            Check.keeps(x, 0, () -> x.tell(0, 5L, 2, first, 10L, 3L));
            Check.keeps(x, 0, () -> x.tell(0, 5L, 1, (first + 1) % 4, 10L, 3L));
            Check.keeps(x, 0, () -> x.tell(0, 5L, 1, first, 11L, 3L));
            Check.keeps(x, 0, () -> x.tell(0, 5L, 1, first, 10L, 4L));
            Check.keeps(x, 0, () -> x.tell(0, 5L, 9, (first + 2) % 4, -1L, -1L));
            x.set(0);
            Check.is(1, x.mark(0));
            Check.is(10, x.at(0, 1, kind, 3L));
        }
    }

    private static void toldBeforeOfTheEnds() {
        ShopDesks x = new ShopDesks();
        long[] numbers = {Long.MIN_VALUE, Long.MIN_VALUE + 1, -1, 0, 7, 7 + (1L << 32), Long.MAX_VALUE - 1, Long.MAX_VALUE};
        for (long number : numbers) {
            Check.is(1, x.tell(5, number, 9, ShopDesks.SETTLE, number, number));
        }
        for (long number : numbers) {
            Check.keeps(x, 0, () -> x.tell(5, number, 0, ShopDesks.COUNT, 0L, 0L));
        }
        Check.is(1, x.tell(5, 1, 0, ShopDesks.COUNT, 0L, 0L));
    }

    /** "IndexOutOfBoundsException: no such teller, thing". */
    private static void noSuchTellerOrThing() {
        ShopDesks x = new ShopDesks();
        for (int none : Check.outside(0, 5)) {
            Check.noIndex(x, () -> x.tell(none, 0L, 0, 0, 0L, 0L));
            Check.noIndex(x, () -> x.tell(none, 0L, 0, 4, 0L, 0L));
        }
        for (int none : Check.outside(0, 9)) {
            Check.noIndex(x, () -> x.tell(0, 0L, none, 0, 0L, 0L));
            Check.noIndex(x, () -> x.tell(0, 0L, none, -1, 0L, 0L));
        }
        Check.is(1, x.tell(0, 0L, 0, 0, 0L, 0L));
        Check.is(1, x.tell(5, 0L, 9, 0, 0L, 0L));
        Check.noIndex(x, () -> x.tell(0, 0L, 10, 0, 0L, 0L));
    }

    /** "IllegalArgumentException: another kind". */
    private static void anotherKind() {
        ShopDesks x = new ShopDesks();
        for (int none : Check.outside(0, 3)) {
            Check.noArgument(x, () -> x.tell(0, 0L, 0, none, 0L, 0L));
        }
        Check.is(1, x.tell(0, 0L, 0, 0, 0L, 0L));
        Check.is(1, x.tell(0, 1L, 0, 3, 0L, 0L));
        Check.noArgument(x, () -> x.tell(0, 0L, 0, 4, 0L, 0L));
    }

    /** "IllegalStateException: there are 300". */
    private static void thereAreThreeHundred() {
        ShopDesks x = new ShopDesks();
        for (int i = 0; i < 300; i++) {
            Check.is(1, x.tell(i % 6, i, i % 10, i % 4, i, i));
        }
        Check.noState(x, () -> x.tell(0, 300L, 0, 0, 0L, 0L));
        Check.noState(x, () -> x.tell(4, 299L, 0, 0, 0L, 0L));
        Check.noIndex(x, () -> x.tell(6, 300L, 0, 0, 0L, 0L));
        Check.noIndex(x, () -> x.tell(0, 300L, 10, 0, 0L, 0L));
        Check.noArgument(x, () -> x.tell(0, 300L, 0, 4, 0L, 0L));
        // What was told before needs no room.
        Check.keeps(x, 0, () -> x.tell(0, 0L, 0, 0, 0L, 0L));
        Check.keeps(x, 0, () -> x.tell(5, 299L, 0, 0, 0L, 0L));
    }
}
