import java.io.IOException;
import java.nio.file.Files;
import java.nio.file.Path;
import java.util.ArrayList;
import java.util.List;

/** README.md's example answers what it says, and is the one that stands here. */
final class ReadmeTest {
    private static final Path README = Path.of("README.md");
    private static final Path HERE = Path.of("src/test/java/ReadmeTest.java");
    private static final String ENDS = "// the example ends";

    public static void main(String[] args) throws IOException {
        tellingsAndSets();
        rightsAndBatches();
        entries();
        isTheOneInTheReadme();
        Check.end();
    }

    private static void tellingsAndSets() {
        // README: tellings and sets
        ShopDesks desks = new ShopDesks();
        int told = desks.tell(0, 1L, 4, ShopDesks.COUNT, 10L, 3L);   // 1
        int again = desks.tell(0, 1L, 4, ShopDesks.COUNT, 99L, 3L);  // 0: teller 0 told number 1 before
        desks.tell(1, 1L, 4, ShopDesks.COUNT, -2L, 5L);
        desks.tell(0, 2L, 4, ShopDesks.MARK, 7L, 1L);
        desks.tell(1, 2L, 4, ShopDesks.MARK, 8L, 2L);

        int front = desks.set(0);                                    // 0: all that teller 0 told so far
        int back = desks.set(1);                                     // 1
        int size = desks.mark(front);                                // 2
        int came = desks.join(front, back);                          // 2
        long value = desks.since(front, size, 0, 2);                 // -2: the first that came behind those
        boolean same = desks.equal(front, back);                     // false
        long early = desks.at(front, 4, ShopDesks.COUNT, 4L);        // 10: at time 4
        long late = desks.at(front, 4, ShopDesks.COUNT, 5L);         // 8
        int unlike = desks.conflict(front, 0);                       // 4: thing 4 has the marks 7 and 8
        int noMore = desks.conflict(front, 1);                       // ShopDesks.NONE
        // the example ends
        Check.is(1, told);
        Check.is(0, again);
        Check.is(0, front);
        Check.is(1, back);
        Check.is(2, size);
        Check.is(2, came);
        Check.is(-2, value);
        Check.is(false, same);
        Check.is(10, early);
        Check.is(8, late);
        Check.is(4, unlike);
        Check.is(ShopDesks.NONE, noMore);
    }

    private static void rightsAndBatches() {
        // README: rights and batches
        ShopDesks desks = new ShopDesks();
        int shop = desks.set(0);
        boolean granted = desks.right(2, ShopDesks.PLACE, true);     // true: person 2 had no right to places
        boolean begun = desks.batch(shop, true);                     // true
        desks.tell(0, 1L, 4, ShopDesks.PLACE, 55L, 3L);
        desks.join(shop, desks.set(0));
        long during = desks.seen(2, shop, 4, ShopDesks.PLACE);       // 0: as it was when the batch was begun
        boolean ended = desks.batch(shop, false);                    // true
        long after = desks.seen(2, shop, 4, ShopDesks.PLACE);        // 55
        // the example ends
        Check.is(true, granted);
        Check.is(true, begun);
        Check.is(0, during);
        Check.is(true, ended);
        Check.is(55, after);
    }

    private static void entries() {
        // README: entries
        ShopDesks desks = new ShopDesks();
        int sale = desks.entry(10);                                  // 0: an entry of day 10, open
        int rows = desks.row(sale, 1, 100L);                         // 1
        int refused = desks.close(sale);                             // 0: its cents are not 0 together
        desks.row(sale, 2, -100L);
        int number = desks.close(sale);                              // 1: its number
        long sum = desks.balance(1, 10);                             // 100: account 1, up to day 10
        boolean closed = desks.closeMonth(0);                        // true: days 0 .. 29
        int tooEarly = desks.reverse(number, 29);                    // 0: that day's month is closed
        int reversal = desks.reverse(number, 30);                    // 2
        long left = desks.balance(1, 30);                            // 0
        // the example ends
        Check.is(0, sale);
        Check.is(1, rows);
        Check.is(0, refused);
        Check.is(1, number);
        Check.is(100, sum);
        Check.is(true, closed);
        Check.is(0, tooEarly);
        Check.is(2, reversal);
        Check.is(0, left);
    }

    private static void isTheOneInTheReadme() throws IOException {
        List<String> there = blocks(Files.readAllLines(README), "```java", "```");
        List<String> here = blocks(Files.readAllLines(HERE), "// README: ", ENDS);
        Check.is(3, there.size());
        Check.that(there.equals(here), "README.md has the examples " + there + ", here are " + here);
    }

    /** What stands between a line that begins so and the next that is the end, each line without its indent. */
    private static List<String> blocks(List<String> lines, String begins, String end) {
        List<String> blocks = new ArrayList<>();
        StringBuilder block = null;
        for (String line : lines) {
            String text = line.strip();
            if (block == null && text.startsWith(begins)) {
                block = new StringBuilder();
            } else if (block != null && text.equals(end)) {
                blocks.add(block.toString());
                block = null;
            } else if (block != null) {
                block.append(text).append('\n');
            }
        }
        return blocks;
    }
}
