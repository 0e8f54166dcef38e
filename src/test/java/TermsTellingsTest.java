/** Terms: "TELLERS 0 .. 5 tell TELLINGS, 300 in all, each with a NUMBER (of a teller each once), .." */
final class TermsTellingsTest {
    public static void main(String[] args) {
        everyTellerThingAndKind();
        threeHundredOfAllTellers();
        threeHundredOfOneTeller();
        whatIsToldAgainTakesNoRoom();
        whatIsRefusedTakesNoRoom();
        aNumberOnceOfEachTeller();
        anyNumberValueAndTime();
        Check.end();
    }

    /** "TELLERS 0 .. 5", "a THING 0 .. 9", "KINDS: 0 COUNT, 1 PLACE, 2 MARK, 3 SETTLE". */
    private static void everyTellerThingAndKind() {
        for (int kind = 0; kind < 4; kind++) {
            ShopDesks x = new ShopDesks();
            for (int i = 0; i < 60; i++) {
                Check.is(1, x.tell(i / 10, i, i % 10, kind, 1000 + i, 1L));
            }
            for (int teller = 0; teller < 6; teller++) {
                Check.is(teller, x.set(teller));
                Check.is(10, x.mark(teller));
            }
            for (int i = 0; i < 60; i++) {
                Check.is(1000 + i, x.at(i / 10, i % 10, kind, 1L));
            }
        }
    }

    /** "300 in all", of all tellers together: the 300th is told, the 301st is not. */
    private static void threeHundredOfAllTellers() {
        ShopDesks x = new ShopDesks();
        for (int i = 0; i < 299; i++) {
            x.tell(i % 6, i, 0, ShopDesks.COUNT, 1L, 0L);
        }
        Check.is(1, x.tell(5, 299L, 0, ShopDesks.COUNT, 1L, 0L));
        for (int teller = 0; teller < 6; teller++) {
            int of = teller;
            Check.noState(x, () -> x.tell(of, 300L, 0, ShopDesks.COUNT, 1L, 0L));
        }
    }

    private static void threeHundredOfOneTeller() {
        ShopDesks x = new ShopDesks();
        for (int i = 0; i < 300; i++) {
            Check.is(1, x.tell(3, i, 9, ShopDesks.COUNT, 1L, 0L));
        }
        Check.noState(x, () -> x.tell(3, 300L, 9, ShopDesks.COUNT, 1L, 0L));
        Check.noState(x, () -> x.tell(0, 0L, 9, ShopDesks.COUNT, 1L, 0L));
        x.set(3);
        x.set(0);
        Check.is(300, x.mark(0));
        Check.is(300, x.at(0, 9, ShopDesks.COUNT, 0L));
        Check.is(0, x.mark(1));
    }

    private static void whatIsToldAgainTakesNoRoom() {
        ShopDesks x = new ShopDesks();
        for (int i = 0; i < 150; i++) {
            Check.is(1, x.tell(0, i, 0, ShopDesks.COUNT, 1L, 0L));
            Check.is(0, x.tell(0, i / 2, 0, ShopDesks.COUNT, 1L, 0L));
        }
        for (int i = 150; i < 300; i++) {
            Check.is(1, x.tell(0, i, 0, ShopDesks.COUNT, 1L, 0L));
        }
        Check.noState(x, () -> x.tell(0, 300L, 0, ShopDesks.COUNT, 1L, 0L));
        Check.keeps(x, 0, () -> x.tell(0, 299L, 0, ShopDesks.COUNT, 1L, 0L));
    }

    private static void whatIsRefusedTakesNoRoom() {
        ShopDesks x = new ShopDesks();
        for (int i = 0; i < 30; i++) {
            long number = i;
            Check.noIndex(x, () -> x.tell(6, number, 0, ShopDesks.COUNT, 1L, 0L));
            Check.noIndex(x, () -> x.tell(0, number, 10, ShopDesks.COUNT, 1L, 0L));
            Check.noArgument(x, () -> x.tell(0, number, 0, 4, 1L, 0L));
        }
        for (int i = 0; i < 300; i++) {
            Check.is(1, x.tell(0, i, 0, ShopDesks.COUNT, 1L, 0L));
        }
    }

    /** "each with a NUMBER (of a teller each once)". */
    private static void aNumberOnceOfEachTeller() {
        ShopDesks x = new ShopDesks();
        for (long number : new long[] {0, -1, 1, Long.MIN_VALUE, Long.MAX_VALUE, 1L << 32}) {
            for (int teller = 0; teller < 6; teller++) {
                int of = teller;
                Check.is(1, x.tell(teller, number, teller, ShopDesks.COUNT, 1L, 0L));
                Check.keeps(x, 0, () -> x.tell(of, number, of, ShopDesks.COUNT, 1L, 0L));
            }
        }
    }

    /** "a value, and when it holds from (ON)": no bound is told for them. */
    private static void anyNumberValueAndTime() {
        long[] any = {Long.MIN_VALUE, Long.MIN_VALUE + 1, -(1L << 32), -1, 0, 1, 1L << 32, Long.MAX_VALUE};
        ShopDesks x = new ShopDesks();
        for (int i = 0; i < any.length; i++) {
            Check.is(1, x.tell(0, any[i], i, ShopDesks.PLACE, any[any.length - 1 - i], any[i]));
        }
        x.set(0);
        for (int i = 0; i < any.length; i++) {
            Check.is(any[i], x.since(0, 0, i, 1));
            Check.is(any[any.length - 1 - i], x.since(0, 0, i, 2));
            Check.is(any[any.length - 1 - i], x.at(0, i, ShopDesks.PLACE, any[i]));
        }
    }
}
