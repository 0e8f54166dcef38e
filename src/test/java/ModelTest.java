import java.util.Random;
import java.util.function.LongSupplier;

/** Runs of 512 calls, made by a fixed rule, on the class and on the model: their answers are the same. */
final class ModelTest {
    private static final int RUNS = 600;
    private static final int CALLS = 512;
    private static final int[] FAR = {Integer.MIN_VALUE, -2, -1, 10, 60, 300, 3600, Integer.MAX_VALUE};
    private static final long[] FAR_TIMES = {Long.MIN_VALUE, Long.MAX_VALUE, -1, 1L << 32};

    private final Random random;
    private final ShopDesks desks = new ShopDesks();
    private final Model model = new Model();
    /** What a run is mostly about: 0 all calls, 1 tellings, 2 the ledger. */
    private final int about;
    private final int tellsFirst;
    private final int numbers;
    private final int mostEntries;
    private final int mostMonth;

    private ModelTest(int run) {
        random = new Random(run);
        about = run % 3;
        tellsFirst = about != 1 ? 0 : run % 4 == 1 ? 330 : 60;
        numbers = run % 2 == 0 ? 12 : 1000;
        mostEntries = run % 2 == 0 ? 60 : 15;
        mostMonth = run % 5 == 0 ? 120 : 20;
    }

    public static void main(String[] args) {
        for (int run = 0; run < RUNS; run++) {
            new ModelTest(run).compare(run);
        }
        Check.end();
    }

    private void compare(int run) {
        for (int i = 0; i < CALLS; i++) {
            one("run " + run + ", call " + i, i < tellsFirst ? 0 : someCall());
        }
    }

    private int someCall() {
        if (about == 0) {
            return random.nextInt(17);
        }
        return about == 1 ? random.nextInt(11) : 11 + random.nextInt(6);
    }

    private void one(String where, int which) {
        boolean is = random.nextBoolean();
        switch (which) {
            case 0 -> tell(where);
            case 1 -> set(where);
            case 2 -> {
                int set = some(8), other = some(8);
                same(where + " join", () -> desks.join(set, other), () -> model.join(set, other));
            }
            case 3 -> {
                int set = some(8), other = some(8);
                same(where + " equal", () -> flag(desks.equal(set, other)), () -> model.equal(set, other));
            }
            case 4 -> at(where);
            case 5 -> {
                int set = some(8), k = some(4);
                same(where + " conflict", () -> desks.conflict(set, k), () -> model.conflict(set, k));
            }
            case 6 -> {
                int set = some(8);
                same(where + " mark", () -> desks.mark(set), () -> model.mark(set));
            }
            case 7 -> since(where);
            case 8 -> {
                int set = some(8);
                same(where + " batch", () -> flag(desks.batch(set, is)), () -> model.batch(set, is));
            }
            case 9 -> {
                int person = some(4), kind = some(4);
                same(where + " right", () -> flag(desks.right(person, kind, is)), () -> model.right(person, kind, is));
            }
            case 10 -> seen(where);
            default -> ledger(where, which);
        }
    }

    private void tell(String where) {
        int teller = some(6), thing = some(10) % 3, kind = some(4);
        long number = random.nextInt(numbers) - 5, value = random.nextInt(3), on = time();
        same(where + " tell", () -> desks.tell(teller, number, thing, kind, value, on),
                () -> model.tell(teller, number, thing, kind, value, on));
    }

    private void set(String where) {
        // Seldom, for sets that are made early have little in them.
        int teller = random.nextInt(3) == 0 ? some(6) : 6;
        same(where + " set", () -> desks.set(teller), () -> model.set(teller));
    }

    private void at(String where) {
        int set = some(8), thing = some(10) % 3, kind = some(4);
        long on = time();
        same(where + " at", () -> desks.at(set, thing, kind, on), () -> model.at(set, thing, kind, on));
    }

    private void since(String where) {
        int set = some(8), mark = some(12), k = some(12), what = some(3);
        same(where + " since", () -> desks.since(set, mark, k, what), () -> model.since(set, mark, k, what));
    }

    private void seen(String where) {
        int person = some(4), set = some(8), thing = some(10) % 3, kind = some(4);
        same(where + " seen", () -> desks.seen(person, set, thing, kind), () -> model.seen(person, set, thing, kind));
    }

    private void ledger(String where, int which) {
        int entry = some(mostEntries), account = some(10), day = some(3600), number = some(mostEntries / 3);
        switch (which) {
            case 11 -> same(where + " entry", () -> desks.entry(day), () -> model.entry(day));
            case 12 -> rows(where, entry, account);
            case 13 -> same(where + " close", () -> desks.close(entry), () -> model.close(entry));
            case 14 -> same(where + " balance", () -> desks.balance(account, day), () -> model.balance(account, day));
            case 15 -> month(where);
            default -> same(where + " reverse", () -> desks.reverse(number, day), () -> model.reverse(number, day));
        }
    }

    private void rows(String where, int entry, int account) {
        long cents = random.nextInt(30) == 0 ? 1000000001L * (random.nextInt(3) - 1) : random.nextInt(3) - 1;
        same(where + " row", () -> desks.row(entry, account, cents), () -> model.row(entry, account, cents));
    }

    private void month(String where) {
        int month = random.nextInt(8) == 0 ? some(mostMonth) : 120;
        same(where + " closeMonth", () -> flag(desks.closeMonth(month)), () -> model.closeMonth(month));
    }

    private int some(int count) {
        return random.nextInt(40) == 0 ? FAR[random.nextInt(FAR.length)] : random.nextInt(count);
    }

    private long time() {
        return random.nextInt(20) == 0 ? FAR_TIMES[random.nextInt(FAR_TIMES.length)] : random.nextInt(6);
    }

    private static void same(String where, LongSupplier ours, LongSupplier due) {
        String got = answer(ours);
        String want = answer(due);
        Check.that(got.equals(want), where + " answered " + got + ", due is " + want);
    }

    private static String answer(LongSupplier call) {
        try {
            return Long.toString(call.getAsLong());
        } catch (RuntimeException e) {
            return "throws." + e.getClass().getSimpleName();
        }
    }

    private static long flag(boolean is) {
        return is ? 1 : 0;
    }
}
